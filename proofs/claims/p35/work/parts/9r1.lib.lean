/-! exact answers (rows written by a program) -/
theorem ax_inc {k : Int32} {j : Nat} (h : k.toInt = (j : Int)) (hj : j < 100000) : (k + 1).toInt = ((j + 1 : Nat) : Int) := by
  have z1 : (1 : Int32).toInt = 1 := rfl
  rw [sx_addI k 1 (by show (-2147483648 : Int) ≤ _; omega) (by show _ ≤ (2147483647 : Int); omega)]
  omega
theorem ax_ixn {c w : Int32} {C : Nat} (hc : c.toInt = C) (hC : C < 1000) (hw : 0 ≤ w.toInt ∧ w.toInt < 1000) : (c + w).toInt = ((C + w.toInt.toNat : Nat) : Int) := by
  rw [sx_addI c w (by show (-2147483648 : Int) ≤ _; omega) (by show _ ≤ (2147483647 : Int); omega)]
  omega
theorem ax_lkc {a o df : Int} {r : List (Int × Int)} {x A : Int32} (hA : A.toInt = a) (h : ¬ x = A) : Op.lookupswitch.offset ((a, o) :: r) df x.toInt = Op.lookupswitch.offset r df x.toInt := by
  rw [Op.lookupswitch.offset_cons, if_neg (fun e => h (Int32.toInt_inj.mp (by rw [hA, ← e])))]
theorem ax_dec {k : Int32} {f : Nat} (h : k.toInt = ((f + 1 : Nat) : Int) - 1) : (k + (-1)).toInt = (f : Int) - 1 := by
  have z1 : ((-1 : Int32)).toInt = -1 := rfl
  have := Int32.toInt_lt k
  rw [sx_addI k (-1) (by show (-2147483648 : Int) ≤ _; omega) (by show _ ≤ (2147483647 : Int); omega)]
  omega
theorem ax_dec0 {k : Int32} {f : Nat} (h : k.toInt = ((f + 1 : Nat) : Int)) : (k + (-1)).toInt = (f : Int) := by
  have z1 : ((-1 : Int32)).toInt = -1 := rfl
  have := Int32.toInt_lt k
  rw [sx_addI k (-1) (by show (-2147483648 : Int) ≤ _; omega) (by show _ ≤ (2147483647 : Int); omega)]
  omega
def ax_f_max (x y : Int32) : Int32 := if x < y then y else x
theorem ax_isIn_b (a b c : Int32) : narrow .boolean (.int (ax_f_isIn a b c)) = .int (ax_f_isIn a b c) := by
  rw [ax_f_isIn]
  split
  · rfl
  · split <;> rfl
theorem ax_ixc {w : Int32} {n : Nat} (h : w.toInt = (n : Int)) : w.toInt = ((w.toInt.toNat : Nat) : Int) := by omega
theorem rd_d_X9_has_0 : decode tX9_has.1.2.1 0 = .ok (.iload_n 1, 1) := by decide +kernel
theorem rd_d_X9_has_1 : decode tX9_has.1.2.1 1 = .ok (.ifCond .lt 15, 3) := by decide +kernel
theorem rd_d_X9_has_4 : decode tX9_has.1.2.1 4 = .ok (.iload_n 1, 1) := by decide +kernel
theorem rd_d_X9_has_5 : decode tX9_has.1.2.1 5 = .ok (.aload_n 0, 1) := by decide +kernel
theorem rd_d_X9_has_6 : decode tX9_has.1.2.1 6 = .ok (.getfield 39, 3) := by decide +kernel
theorem rd_k_X9_has_6 : ex_lk ex_mt tX9_has 6 (.getfield 39) [9, 7, 0, 65656] = true := by decide +kernel
theorem rd_d_X9_has_9 : decode tX9_has.1.2.1 9 = .ok (.if_icmp .ge 7, 3) := by decide +kernel
theorem rd_d_X9_has_12 : decode tX9_has.1.2.1 12 = .ok (.iconst 1, 1) := by decide +kernel
theorem rd_d_X9_has_13 : decode tX9_has.1.2.1 13 = .ok (.goto 4, 3) := by decide +kernel
theorem rd_d_X9_has_16 : decode tX9_has.1.2.1 16 = .ok (.iconst 0, 1) := by decide +kernel
theorem rd_d_X9_has_17 : decode tX9_has.1.2.1 17 = .ok (.ireturn, 1) := by decide +kernel
theorem rd_d_X12_isWindow_0 : decode tX12_isWindow.1.2.1 0 = .ok (.iload_n 1, 1) := by decide +kernel
theorem rd_d_X12_isWindow_1 : decode tX12_isWindow.1.2.1 1 = .ok (.iconst 0, 1) := by decide +kernel
theorem rd_d_X12_isWindow_2 : decode tX12_isWindow.1.2.1 2 = .ok (.aload_n 0, 1) := by decide +kernel
theorem rd_d_X12_isWindow_3 : decode tX12_isWindow.1.2.1 3 = .ok (.getfield 33, 3) := by decide +kernel
theorem rd_k_X12_isWindow_3 : ex_lk ex_mt tX12_isWindow 3 (.getfield 33) [12, 6, 2, 458773] = true := by decide +kernel
theorem rd_d_X12_isWindow_6 : decode tX12_isWindow.1.2.1 6 = .ok (.iconst 0, 1) := by decide +kernel
theorem rd_d_X12_isWindow_7 : decode tX12_isWindow.1.2.1 7 = .ok (.iaload, 1) := by decide +kernel
theorem rd_d_X12_isWindow_8 : decode tX12_isWindow.1.2.1 8 = .ok (.iconst 1, 1) := by decide +kernel
theorem rd_d_X12_isWindow_9 : decode tX12_isWindow.1.2.1 9 = .ok (.isub, 1) := by decide +kernel
theorem rd_d_X12_isWindow_10 : decode tX12_isWindow.1.2.1 10 = .ok (.invokestatic 134, 3) := by decide +kernel
theorem rd_k_X12_isWindow_10 : ex_lk ex_mt tX12_isWindow 10 (.invokestatic 134) [0, 119, 458953] = true := by decide +kernel
theorem rd_d_X12_isWindow_13 : decode tX12_isWindow.1.2.1 13 = .ok (.ireturn, 1) := by decide +kernel
theorem rd_d_X9_priceOf_0 : decode tX9_priceOf.1.2.1 0 = .ok (.aload_n 0, 1) := by decide +kernel
theorem rd_d_X9_priceOf_1 : decode tX9_priceOf.1.2.1 1 = .ok (.getfield 9, 3) := by decide +kernel
theorem rd_k_X9_priceOf_1 : ex_lk ex_mt tX9_priceOf 1 (.getfield 9) [9, 0, 2, 65649] = true := by decide +kernel
theorem rd_d_X9_priceOf_4 : decode tX9_priceOf.1.2.1 4 = .ok (.iload_n 1, 1) := by decide +kernel
theorem rd_d_X9_priceOf_5 : decode tX9_priceOf.1.2.1 5 = .ok (.invokestatic 118, 3) := by decide +kernel
theorem rd_k_X9_priceOf_5 : ex_lk ex_mt tX9_priceOf 5 (.invokestatic 118) [0, 32, 196745] = true := by decide +kernel
theorem rd_d_X9_priceOf_8 : decode tX9_priceOf.1.2.1 8 = .ok (.ireturn, 1) := by decide +kernel
theorem rd_d_X9_takesOf_0 : decode tX9_takesOf.1.2.1 0 = .ok (.aload_n 0, 1) := by decide +kernel
theorem rd_d_X9_takesOf_1 : decode tX9_takesOf.1.2.1 1 = .ok (.getfield 15, 3) := by decide +kernel
theorem rd_k_X9_takesOf_1 : ex_lk ex_mt tX9_takesOf 1 (.getfield 15) [9, 1, 2, 65650] = true := by decide +kernel
theorem rd_d_X9_takesOf_4 : decode tX9_takesOf.1.2.1 4 = .ok (.iload_n 1, 1) := by decide +kernel
theorem rd_d_X9_takesOf_5 : decode tX9_takesOf.1.2.1 5 = .ok (.invokestatic 118, 3) := by decide +kernel
theorem rd_k_X9_takesOf_5 : ex_lk ex_mt tX9_takesOf 5 (.invokestatic 118) [0, 32, 196745] = true := by decide +kernel
theorem rd_d_X9_takesOf_8 : decode tX9_takesOf.1.2.1 8 = .ok (.ireturn, 1) := by decide +kernel
theorem rd_d_X9_weightFrom_0 : decode tX9_weightFrom.1.2.1 0 = .ok (.iconst 0, 1) := by decide +kernel
theorem rd_d_X9_weightFrom_1 : decode tX9_weightFrom.1.2.1 1 = .ok (.istore_n 2, 1) := by decide +kernel
theorem rd_d_X9_weightFrom_2 : decode tX9_weightFrom.1.2.1 2 = .ok (.iconst 0, 1) := by decide +kernel
theorem rd_d_X9_weightFrom_3 : decode tX9_weightFrom.1.2.1 3 = .ok (.istore_n 3, 1) := by decide +kernel
theorem rd_d_X9_weightFrom_4 : decode tX9_weightFrom.1.2.1 4 = .ok (.iload_n 3, 1) := by decide +kernel
theorem rd_d_X9_weightFrom_5 : decode tX9_weightFrom.1.2.1 5 = .ok (.aload_n 0, 1) := by decide +kernel
theorem rd_d_X9_weightFrom_6 : decode tX9_weightFrom.1.2.1 6 = .ok (.getfield 43, 3) := by decide +kernel
theorem rd_k_X9_weightFrom_6 : ex_lk ex_mt tX9_weightFrom 6 (.getfield 43) [9, 8, 0, 65660] = true := by decide +kernel
theorem rd_d_X9_weightFrom_9 : decode tX9_weightFrom.1.2.1 9 = .ok (.if_icmp .ge 46, 3) := by decide +kernel
theorem rd_d_X9_weightFrom_12 : decode tX9_weightFrom.1.2.1 12 = .ok (.iload_n 3, 1) := by decide +kernel
theorem rd_d_X9_weightFrom_13 : decode tX9_weightFrom.1.2.1 13 = .ok (.aload_n 0, 1) := by decide +kernel
theorem rd_d_X9_weightFrom_14 : decode tX9_weightFrom.1.2.1 14 = .ok (.getfield 24, 3) := by decide +kernel
theorem rd_k_X9_weightFrom_14 : ex_lk ex_mt tX9_weightFrom 14 (.getfield 24) [9, 4, 2, 65653] = true := by decide +kernel
theorem rd_d_X9_weightFrom_17 : decode tX9_weightFrom.1.2.1 17 = .ok (.arraylength, 1) := by decide +kernel
theorem rd_d_X9_weightFrom_18 : decode tX9_weightFrom.1.2.1 18 = .ok (.if_icmp .ge 37, 3) := by decide +kernel
theorem rd_d_X9_weightFrom_21 : decode tX9_weightFrom.1.2.1 21 = .ok (.iload_n 3, 1) := by decide +kernel
theorem rd_d_X9_weightFrom_22 : decode tX9_weightFrom.1.2.1 22 = .ok (.aload_n 0, 1) := by decide +kernel
theorem rd_d_X9_weightFrom_23 : decode tX9_weightFrom.1.2.1 23 = .ok (.getfield 27, 3) := by decide +kernel
theorem rd_k_X9_weightFrom_23 : ex_lk ex_mt tX9_weightFrom 23 (.getfield 27) [9, 5, 2, 65654] = true := by decide +kernel
theorem rd_d_X9_weightFrom_26 : decode tX9_weightFrom.1.2.1 26 = .ok (.arraylength, 1) := by decide +kernel
theorem rd_d_X9_weightFrom_27 : decode tX9_weightFrom.1.2.1 27 = .ok (.if_icmp .ge 28, 3) := by decide +kernel
theorem rd_d_X9_weightFrom_30 : decode tX9_weightFrom.1.2.1 30 = .ok (.aload_n 0, 1) := by decide +kernel
theorem rd_d_X9_weightFrom_31 : decode tX9_weightFrom.1.2.1 31 = .ok (.getfield 24, 3) := by decide +kernel
theorem rd_k_X9_weightFrom_31 : ex_lk ex_mt tX9_weightFrom 31 (.getfield 24) [9, 4, 2, 65653] = true := by decide +kernel
theorem rd_d_X9_weightFrom_34 : decode tX9_weightFrom.1.2.1 34 = .ok (.iload_n 3, 1) := by decide +kernel
theorem rd_d_X9_weightFrom_35 : decode tX9_weightFrom.1.2.1 35 = .ok (.iaload, 1) := by decide +kernel
theorem rd_d_X9_weightFrom_36 : decode tX9_weightFrom.1.2.1 36 = .ok (.iload_n 1, 1) := by decide +kernel
theorem rd_d_X9_weightFrom_37 : decode tX9_weightFrom.1.2.1 37 = .ok (.if_icmp .lt 12, 3) := by decide +kernel
theorem rd_d_X9_weightFrom_40 : decode tX9_weightFrom.1.2.1 40 = .ok (.iload_n 2, 1) := by decide +kernel
theorem rd_d_X9_weightFrom_41 : decode tX9_weightFrom.1.2.1 41 = .ok (.aload_n 0, 1) := by decide +kernel
theorem rd_d_X9_weightFrom_42 : decode tX9_weightFrom.1.2.1 42 = .ok (.getfield 27, 3) := by decide +kernel
theorem rd_k_X9_weightFrom_42 : ex_lk ex_mt tX9_weightFrom 42 (.getfield 27) [9, 5, 2, 65654] = true := by decide +kernel
theorem rd_d_X9_weightFrom_45 : decode tX9_weightFrom.1.2.1 45 = .ok (.iload_n 3, 1) := by decide +kernel
theorem rd_d_X9_weightFrom_46 : decode tX9_weightFrom.1.2.1 46 = .ok (.iaload, 1) := by decide +kernel
theorem rd_d_X9_weightFrom_47 : decode tX9_weightFrom.1.2.1 47 = .ok (.iadd, 1) := by decide +kernel
theorem rd_d_X9_weightFrom_48 : decode tX9_weightFrom.1.2.1 48 = .ok (.istore_n 2, 1) := by decide +kernel
theorem rd_d_X9_weightFrom_49 : decode tX9_weightFrom.1.2.1 49 = .ok (.iinc 3 1, 3) := by decide +kernel
theorem rd_d_X9_weightFrom_52 : decode tX9_weightFrom.1.2.1 52 = .ok (.goto (-48), 3) := by decide +kernel
theorem rd_d_X9_weightFrom_55 : decode tX9_weightFrom.1.2.1 55 = .ok (.iload_n 2, 1) := by decide +kernel
theorem rd_d_X9_weightFrom_56 : decode tX9_weightFrom.1.2.1 56 = .ok (.ireturn, 1) := by decide +kernel
theorem rd_d_X12_standing_0 : decode tX12_standing.1.2.1 0 = .ok (.iconst 0, 1) := by decide +kernel
theorem rd_d_X12_standing_1 : decode tX12_standing.1.2.1 1 = .ok (.istore_n 2, 1) := by decide +kernel
theorem rd_d_X12_standing_2 : decode tX12_standing.1.2.1 2 = .ok (.iconst 0, 1) := by decide +kernel
theorem rd_d_X12_standing_3 : decode tX12_standing.1.2.1 3 = .ok (.istore_n 3, 1) := by decide +kernel
theorem rd_d_X12_standing_4 : decode tX12_standing.1.2.1 4 = .ok (.iload_n 3, 1) := by decide +kernel
theorem rd_d_X12_standing_5 : decode tX12_standing.1.2.1 5 = .ok (.aload_n 0, 1) := by decide +kernel
theorem rd_d_X12_standing_6 : decode tX12_standing.1.2.1 6 = .ok (.invokevirtual 205, 3) := by decide +kernel
theorem rd_k_X12_standing_6 : ex_lk ex_mt tX12_standing 6 (.invokevirtual 205) [0, 171, 524299] = true := by decide +kernel
theorem rd_d_X12_standing_9 : decode tX12_standing.1.2.1 9 = .ok (.if_icmp .ge 30, 3) := by decide +kernel
theorem rd_d_X12_standing_12 : decode tX12_standing.1.2.1 12 = .ok (.iload_n 2, 1) := by decide +kernel
theorem rd_d_X12_standing_13 : decode tX12_standing.1.2.1 13 = .ok (.aload_n 0, 1) := by decide +kernel
theorem rd_d_X12_standing_14 : decode tX12_standing.1.2.1 14 = .ok (.iload_n 3, 1) := by decide +kernel
theorem rd_d_X12_standing_15 : decode tX12_standing.1.2.1 15 = .ok (.invokevirtual 208, 3) := by decide +kernel
theorem rd_k_X12_standing_15 : ex_lk ex_mt tX12_standing 15 (.invokevirtual 208) [0, 163, 524306] = true := by decide +kernel
theorem rd_d_X12_standing_18 : decode tX12_standing.1.2.1 18 = .ok (.iload_n 1, 1) := by decide +kernel
theorem rd_d_X12_standing_19 : decode tX12_standing.1.2.1 19 = .ok (.if_icmp .lt 11, 3) := by decide +kernel
theorem rd_d_X12_standing_22 : decode tX12_standing.1.2.1 22 = .ok (.aload_n 0, 1) := by decide +kernel
theorem rd_d_X12_standing_23 : decode tX12_standing.1.2.1 23 = .ok (.iload_n 3, 1) := by decide +kernel
theorem rd_d_X12_standing_24 : decode tX12_standing.1.2.1 24 = .ok (.invokevirtual 211, 3) := by decide +kernel
theorem rd_k_X12_standing_24 : ex_lk ex_mt tX12_standing 24 (.invokevirtual 211) [0, 185, 524310] = true := by decide +kernel
theorem rd_d_X12_standing_27 : decode tX12_standing.1.2.1 27 = .ok (.goto 4, 3) := by decide +kernel
theorem rd_d_X12_standing_30 : decode tX12_standing.1.2.1 30 = .ok (.iconst 0, 1) := by decide +kernel
theorem rd_d_X12_standing_31 : decode tX12_standing.1.2.1 31 = .ok (.iadd, 1) := by decide +kernel
theorem rd_d_X12_standing_32 : decode tX12_standing.1.2.1 32 = .ok (.istore_n 2, 1) := by decide +kernel
theorem rd_d_X12_standing_33 : decode tX12_standing.1.2.1 33 = .ok (.iinc 3 1, 3) := by decide +kernel
theorem rd_d_X12_standing_36 : decode tX12_standing.1.2.1 36 = .ok (.goto (-32), 3) := by decide +kernel
theorem rd_d_X12_standing_39 : decode tX12_standing.1.2.1 39 = .ok (.iload_n 2, 1) := by decide +kernel
theorem rd_d_X12_standing_40 : decode tX12_standing.1.2.1 40 = .ok (.ireturn, 1) := by decide +kernel
theorem rd_d_X9_shy_0 : decode tX9_shy.1.2.1 0 = .ok (.aload_n 0, 1) := by decide +kernel
theorem rd_d_X9_shy_1 : decode tX9_shy.1.2.1 1 = .ok (.getfield 30, 3) := by decide +kernel
theorem rd_k_X9_shy_1 : ex_lk ex_mt tX9_shy 1 (.getfield 30) [9, 6, 2, 65655] = true := by decide +kernel
theorem rd_d_X9_shy_4 : decode tX9_shy.1.2.1 4 = .ok (.iconst 3, 1) := by decide +kernel
theorem rd_d_X9_shy_5 : decode tX9_shy.1.2.1 5 = .ok (.invokestatic 118, 3) := by decide +kernel
theorem rd_k_X9_shy_5 : ex_lk ex_mt tX9_shy 5 (.invokestatic 118) [0, 32, 196745] = true := by decide +kernel
theorem rd_d_X9_shy_8 : decode tX9_shy.1.2.1 8 = .ok (.ireturn, 1) := by decide +kernel
theorem rd_d_X9_honest_0 : decode tX9_honest.1.2.1 0 = .ok (.aload_n 0, 1) := by decide +kernel
theorem rd_d_X9_honest_1 : decode tX9_honest.1.2.1 1 = .ok (.getfield 30, 3) := by decide +kernel
theorem rd_k_X9_honest_1 : ex_lk ex_mt tX9_honest 1 (.getfield 30) [9, 6, 2, 65655] = true := by decide +kernel
theorem rd_d_X9_honest_4 : decode tX9_honest.1.2.1 4 = .ok (.iconst 2, 1) := by decide +kernel
theorem rd_d_X9_honest_5 : decode tX9_honest.1.2.1 5 = .ok (.invokestatic 118, 3) := by decide +kernel
theorem rd_k_X9_honest_5 : ex_lk ex_mt tX9_honest 5 (.invokestatic 118) [0, 32, 196745] = true := by decide +kernel
theorem rd_d_X9_honest_8 : decode tX9_honest.1.2.1 8 = .ok (.ireturn, 1) := by decide +kernel
theorem rd_d_X9_gainOf_0 : decode tX9_gainOf.1.2.1 0 = .ok (.aload_n 0, 1) := by decide +kernel
theorem rd_d_X9_gainOf_1 : decode tX9_gainOf.1.2.1 1 = .ok (.iload_n 3, 1) := by decide +kernel
theorem rd_d_X9_gainOf_2 : decode tX9_gainOf.1.2.1 2 = .ok (.iconst 1, 1) := by decide +kernel
theorem rd_d_X9_gainOf_3 : decode tX9_gainOf.1.2.1 3 = .ok (.iadd, 1) := by decide +kernel
theorem rd_d_X9_gainOf_4 : decode tX9_gainOf.1.2.1 4 = .ok (.invokevirtual 125, 3) := by decide +kernel
theorem rd_k_X9_gainOf_4 : ex_lk ex_mt tX9_gainOf 4 (.invokevirtual 125) [0, 314, 262289] = true := by decide +kernel
theorem rd_d_X9_gainOf_7 : decode tX9_gainOf.1.2.1 7 = .ok (.istore 4, 2) := by decide +kernel
theorem rd_d_X9_gainOf_9 : decode tX9_gainOf.1.2.1 9 = .ok (.iload_n 2, 1) := by decide +kernel
theorem rd_d_X9_gainOf_10 : decode tX9_gainOf.1.2.1 10 = .ok (.iconst 1, 1) := by decide +kernel
theorem rd_d_X9_gainOf_11 : decode tX9_gainOf.1.2.1 11 = .ok (.if_icmp .ne 20, 3) := by decide +kernel
theorem rd_d_X9_gainOf_14 : decode tX9_gainOf.1.2.1 14 = .ok (.aload_n 0, 1) := by decide +kernel
theorem rd_d_X9_gainOf_15 : decode tX9_gainOf.1.2.1 15 = .ok (.iload_n 1, 1) := by decide +kernel
theorem rd_d_X9_gainOf_16 : decode tX9_gainOf.1.2.1 16 = .ok (.invokevirtual 152, 3) := by decide +kernel
theorem rd_k_X9_gainOf_16 : ex_lk ex_mt tX9_gainOf 16 (.invokevirtual 152) [0, 299, 262293] = true := by decide +kernel
theorem rd_d_X9_gainOf_19 : decode tX9_gainOf.1.2.1 19 = .ok (.bipush 12, 2) := by decide +kernel
theorem rd_d_X9_gainOf_21 : decode tX9_gainOf.1.2.1 21 = .ok (.aload_n 0, 1) := by decide +kernel
theorem rd_d_X9_gainOf_22 : decode tX9_gainOf.1.2.1 22 = .ok (.invokevirtual 155, 3) := by decide +kernel
theorem rd_k_X9_gainOf_22 : ex_lk ex_mt tX9_gainOf 22 (.invokevirtual 155) [0, 310, 262294] = true := by decide +kernel
theorem rd_d_X9_gainOf_25 : decode tX9_gainOf.1.2.1 25 = .ok (.isub, 1) := by decide +kernel
theorem rd_d_X9_gainOf_26 : decode tX9_gainOf.1.2.1 26 = .ok (.imul, 1) := by decide +kernel
theorem rd_d_X9_gainOf_27 : decode tX9_gainOf.1.2.1 27 = .ok (.iload 4, 2) := by decide +kernel
theorem rd_d_X9_gainOf_29 : decode tX9_gainOf.1.2.1 29 = .ok (.imul, 1) := by decide +kernel
theorem rd_d_X9_gainOf_30 : decode tX9_gainOf.1.2.1 30 = .ok (.ireturn, 1) := by decide +kernel
theorem rd_d_X9_gainOf_31 : decode tX9_gainOf.1.2.1 31 = .ok (.aload_n 0, 1) := by decide +kernel
theorem rd_d_X9_gainOf_32 : decode tX9_gainOf.1.2.1 32 = .ok (.iload_n 3, 1) := by decide +kernel
theorem rd_d_X9_gainOf_33 : decode tX9_gainOf.1.2.1 33 = .ok (.aload_n 0, 1) := by decide +kernel
theorem rd_d_X9_gainOf_34 : decode tX9_gainOf.1.2.1 34 = .ok (.iload_n 1, 1) := by decide +kernel
theorem rd_d_X9_gainOf_35 : decode tX9_gainOf.1.2.1 35 = .ok (.invokevirtual 158, 3) := by decide +kernel
theorem rd_k_X9_gainOf_35 : ex_lk ex_mt tX9_gainOf 35 (.invokevirtual 158) [0, 311, 262295] = true := by decide +kernel
theorem rd_d_X9_gainOf_38 : decode tX9_gainOf.1.2.1 38 = .ok (.iadd, 1) := by decide +kernel
theorem rd_d_X9_gainOf_39 : decode tX9_gainOf.1.2.1 39 = .ok (.invokevirtual 125, 3) := by decide +kernel
theorem rd_k_X9_gainOf_39 : ex_lk ex_mt tX9_gainOf 39 (.invokevirtual 125) [0, 314, 262289] = true := by decide +kernel
theorem rd_d_X9_gainOf_42 : decode tX9_gainOf.1.2.1 42 = .ok (.istore 5, 2) := by decide +kernel
theorem rd_d_X9_gainOf_44 : decode tX9_gainOf.1.2.1 44 = .ok (.aload_n 0, 1) := by decide +kernel
theorem rd_d_X9_gainOf_45 : decode tX9_gainOf.1.2.1 45 = .ok (.iload_n 1, 1) := by decide +kernel
theorem rd_d_X9_gainOf_46 : decode tX9_gainOf.1.2.1 46 = .ok (.invokevirtual 152, 3) := by decide +kernel
theorem rd_k_X9_gainOf_46 : ex_lk ex_mt tX9_gainOf 46 (.invokevirtual 152) [0, 299, 262293] = true := by decide +kernel
theorem rd_d_X9_gainOf_49 : decode tX9_gainOf.1.2.1 49 = .ok (.bipush 12, 2) := by decide +kernel
theorem rd_d_X9_gainOf_51 : decode tX9_gainOf.1.2.1 51 = .ok (.iload 5, 2) := by decide +kernel
theorem rd_d_X9_gainOf_53 : decode tX9_gainOf.1.2.1 53 = .ok (.imul, 1) := by decide +kernel
theorem rd_d_X9_gainOf_54 : decode tX9_gainOf.1.2.1 54 = .ok (.aload_n 0, 1) := by decide +kernel
theorem rd_d_X9_gainOf_55 : decode tX9_gainOf.1.2.1 55 = .ok (.invokevirtual 161, 3) := by decide +kernel
theorem rd_k_X9_gainOf_55 : ex_lk ex_mt tX9_gainOf 55 (.invokevirtual 161) [0, 294, 262296] = true := by decide +kernel
theorem rd_d_X9_gainOf_58 : decode tX9_gainOf.1.2.1 58 = .ok (.iload 4, 2) := by decide +kernel
theorem rd_d_X9_gainOf_60 : decode tX9_gainOf.1.2.1 60 = .ok (.iload 5, 2) := by decide +kernel
theorem rd_d_X9_gainOf_62 : decode tX9_gainOf.1.2.1 62 = .ok (.isub, 1) := by decide +kernel
theorem rd_d_X9_gainOf_63 : decode tX9_gainOf.1.2.1 63 = .ok (.imul, 1) := by decide +kernel
theorem rd_d_X9_gainOf_64 : decode tX9_gainOf.1.2.1 64 = .ok (.iadd, 1) := by decide +kernel
theorem rd_d_X9_gainOf_65 : decode tX9_gainOf.1.2.1 65 = .ok (.imul, 1) := by decide +kernel
theorem rd_d_X9_gainOf_66 : decode tX9_gainOf.1.2.1 66 = .ok (.ireturn, 1) := by decide +kernel
theorem rd_d_X12_gainOf_0 : decode tX12_gainOf.1.2.1 0 = .ok (.aload_n 0, 1) := by decide +kernel
theorem rd_d_X12_gainOf_1 : decode tX12_gainOf.1.2.1 1 = .ok (.iload_n 3, 1) := by decide +kernel
theorem rd_d_X12_gainOf_2 : decode tX12_gainOf.1.2.1 2 = .ok (.iconst 1, 1) := by decide +kernel
theorem rd_d_X12_gainOf_3 : decode tX12_gainOf.1.2.1 3 = .ok (.iadd, 1) := by decide +kernel
theorem rd_d_X12_gainOf_4 : decode tX12_gainOf.1.2.1 4 = .ok (.invokevirtual 276, 3) := by decide +kernel
theorem rd_k_X12_gainOf_4 : ex_lk ex_mt tX12_gainOf 4 (.invokevirtual 276) [0, 172, 524429] = true := by decide +kernel
theorem rd_d_X12_gainOf_7 : decode tX12_gainOf.1.2.1 7 = .ok (.istore 4, 2) := by decide +kernel
theorem rd_d_X12_gainOf_9 : decode tX12_gainOf.1.2.1 9 = .ok (.iload_n 2, 1) := by decide +kernel
theorem rd_d_X12_gainOf_10 : decode tX12_gainOf.1.2.1 10 = .ok (.iconst 1, 1) := by decide +kernel
theorem rd_d_X12_gainOf_11 : decode tX12_gainOf.1.2.1 11 = .ok (.if_icmp .ne 26, 3) := by decide +kernel
theorem rd_d_X12_gainOf_14 : decode tX12_gainOf.1.2.1 14 = .ok (.aload_n 0, 1) := by decide +kernel
theorem rd_d_X12_gainOf_15 : decode tX12_gainOf.1.2.1 15 = .ok (.getfield 33, 3) := by decide +kernel
theorem rd_k_X12_gainOf_15 : ex_lk ex_mt tX12_gainOf 15 (.getfield 33) [12, 6, 2, 458773] = true := by decide +kernel
theorem rd_d_X12_gainOf_18 : decode tX12_gainOf.1.2.1 18 = .ok (.iconst 2, 1) := by decide +kernel
theorem rd_d_X12_gainOf_19 : decode tX12_gainOf.1.2.1 19 = .ok (.iload_n 1, 1) := by decide +kernel
theorem rd_d_X12_gainOf_20 : decode tX12_gainOf.1.2.1 20 = .ok (.iadd, 1) := by decide +kernel
theorem rd_d_X12_gainOf_21 : decode tX12_gainOf.1.2.1 21 = .ok (.iaload, 1) := by decide +kernel
theorem rd_d_X12_gainOf_22 : decode tX12_gainOf.1.2.1 22 = .ok (.bipush 12, 2) := by decide +kernel
theorem rd_d_X12_gainOf_24 : decode tX12_gainOf.1.2.1 24 = .ok (.aload_n 0, 1) := by decide +kernel
theorem rd_d_X12_gainOf_25 : decode tX12_gainOf.1.2.1 25 = .ok (.getfield 33, 3) := by decide +kernel
theorem rd_k_X12_gainOf_25 : ex_lk ex_mt tX12_gainOf 25 (.getfield 33) [12, 6, 2, 458773] = true := by decide +kernel
theorem rd_d_X12_gainOf_28 : decode tX12_gainOf.1.2.1 28 = .ok (.bipush 57, 2) := by decide +kernel
theorem rd_d_X12_gainOf_30 : decode tX12_gainOf.1.2.1 30 = .ok (.iaload, 1) := by decide +kernel
theorem rd_d_X12_gainOf_31 : decode tX12_gainOf.1.2.1 31 = .ok (.isub, 1) := by decide +kernel
theorem rd_d_X12_gainOf_32 : decode tX12_gainOf.1.2.1 32 = .ok (.imul, 1) := by decide +kernel
theorem rd_d_X12_gainOf_33 : decode tX12_gainOf.1.2.1 33 = .ok (.iload 4, 2) := by decide +kernel
theorem rd_d_X12_gainOf_35 : decode tX12_gainOf.1.2.1 35 = .ok (.imul, 1) := by decide +kernel
theorem rd_d_X12_gainOf_36 : decode tX12_gainOf.1.2.1 36 = .ok (.ireturn, 1) := by decide +kernel
theorem rd_d_X12_gainOf_37 : decode tX12_gainOf.1.2.1 37 = .ok (.aload_n 0, 1) := by decide +kernel
theorem rd_d_X12_gainOf_38 : decode tX12_gainOf.1.2.1 38 = .ok (.iload_n 3, 1) := by decide +kernel
theorem rd_d_X12_gainOf_39 : decode tX12_gainOf.1.2.1 39 = .ok (.aload_n 0, 1) := by decide +kernel
theorem rd_d_X12_gainOf_40 : decode tX12_gainOf.1.2.1 40 = .ok (.getfield 33, 3) := by decide +kernel
theorem rd_k_X12_gainOf_40 : ex_lk ex_mt tX12_gainOf 40 (.getfield 33) [12, 6, 2, 458773] = true := by decide +kernel
theorem rd_d_X12_gainOf_43 : decode tX12_gainOf.1.2.1 43 = .ok (.bipush 12, 2) := by decide +kernel
theorem rd_d_X12_gainOf_45 : decode tX12_gainOf.1.2.1 45 = .ok (.iload_n 1, 1) := by decide +kernel
theorem rd_d_X12_gainOf_46 : decode tX12_gainOf.1.2.1 46 = .ok (.iadd, 1) := by decide +kernel
theorem rd_d_X12_gainOf_47 : decode tX12_gainOf.1.2.1 47 = .ok (.iaload, 1) := by decide +kernel
theorem rd_d_X12_gainOf_48 : decode tX12_gainOf.1.2.1 48 = .ok (.iadd, 1) := by decide +kernel
theorem rd_d_X12_gainOf_49 : decode tX12_gainOf.1.2.1 49 = .ok (.invokevirtual 276, 3) := by decide +kernel
theorem rd_k_X12_gainOf_49 : ex_lk ex_mt tX12_gainOf 49 (.invokevirtual 276) [0, 172, 524429] = true := by decide +kernel
theorem rd_d_X12_gainOf_52 : decode tX12_gainOf.1.2.1 52 = .ok (.istore 5, 2) := by decide +kernel
theorem rd_d_X12_gainOf_54 : decode tX12_gainOf.1.2.1 54 = .ok (.aload_n 0, 1) := by decide +kernel
theorem rd_d_X12_gainOf_55 : decode tX12_gainOf.1.2.1 55 = .ok (.getfield 33, 3) := by decide +kernel
theorem rd_k_X12_gainOf_55 : ex_lk ex_mt tX12_gainOf 55 (.getfield 33) [12, 6, 2, 458773] = true := by decide +kernel
theorem rd_d_X12_gainOf_58 : decode tX12_gainOf.1.2.1 58 = .ok (.iconst 2, 1) := by decide +kernel
theorem rd_d_X12_gainOf_59 : decode tX12_gainOf.1.2.1 59 = .ok (.iload_n 1, 1) := by decide +kernel
theorem rd_d_X12_gainOf_60 : decode tX12_gainOf.1.2.1 60 = .ok (.iadd, 1) := by decide +kernel
theorem rd_d_X12_gainOf_61 : decode tX12_gainOf.1.2.1 61 = .ok (.iaload, 1) := by decide +kernel
theorem rd_d_X12_gainOf_62 : decode tX12_gainOf.1.2.1 62 = .ok (.bipush 12, 2) := by decide +kernel
theorem rd_d_X12_gainOf_64 : decode tX12_gainOf.1.2.1 64 = .ok (.iload 5, 2) := by decide +kernel
theorem rd_d_X12_gainOf_66 : decode tX12_gainOf.1.2.1 66 = .ok (.imul, 1) := by decide +kernel
theorem rd_d_X12_gainOf_67 : decode tX12_gainOf.1.2.1 67 = .ok (.aload_n 0, 1) := by decide +kernel
theorem rd_d_X12_gainOf_68 : decode tX12_gainOf.1.2.1 68 = .ok (.getfield 33, 3) := by decide +kernel
theorem rd_k_X12_gainOf_68 : ex_lk ex_mt tX12_gainOf 68 (.getfield 33) [12, 6, 2, 458773] = true := by decide +kernel
theorem rd_d_X12_gainOf_71 : decode tX12_gainOf.1.2.1 71 = .ok (.bipush 56, 2) := by decide +kernel
theorem rd_d_X12_gainOf_73 : decode tX12_gainOf.1.2.1 73 = .ok (.iaload, 1) := by decide +kernel
theorem rd_d_X12_gainOf_74 : decode tX12_gainOf.1.2.1 74 = .ok (.iload 4, 2) := by decide +kernel
theorem rd_d_X12_gainOf_76 : decode tX12_gainOf.1.2.1 76 = .ok (.iload 5, 2) := by decide +kernel
theorem rd_d_X12_gainOf_78 : decode tX12_gainOf.1.2.1 78 = .ok (.isub, 1) := by decide +kernel
theorem rd_d_X12_gainOf_79 : decode tX12_gainOf.1.2.1 79 = .ok (.imul, 1) := by decide +kernel
theorem rd_d_X12_gainOf_80 : decode tX12_gainOf.1.2.1 80 = .ok (.iadd, 1) := by decide +kernel
theorem rd_d_X12_gainOf_81 : decode tX12_gainOf.1.2.1 81 = .ok (.imul, 1) := by decide +kernel
theorem rd_d_X12_gainOf_82 : decode tX12_gainOf.1.2.1 82 = .ok (.ireturn, 1) := by decide +kernel
theorem rd_d_X9_betterWay_0 : decode tX9_betterWay.1.2.1 0 = .ok (.aload_n 0, 1) := by decide +kernel
theorem rd_d_X9_betterWay_1 : decode tX9_betterWay.1.2.1 1 = .ok (.iload_n 1, 1) := by decide +kernel
theorem rd_d_X9_betterWay_2 : decode tX9_betterWay.1.2.1 2 = .ok (.iconst 1, 1) := by decide +kernel
theorem rd_d_X9_betterWay_3 : decode tX9_betterWay.1.2.1 3 = .ok (.iload_n 2, 1) := by decide +kernel
theorem rd_d_X9_betterWay_4 : decode tX9_betterWay.1.2.1 4 = .ok (.invokevirtual 164, 3) := by decide +kernel
theorem rd_k_X9_betterWay_4 : ex_lk ex_mt tX9_betterWay 4 (.invokevirtual 164) [0, 292, 262285] = true := by decide +kernel
theorem rd_d_X9_betterWay_7 : decode tX9_betterWay.1.2.1 7 = .ok (.aload_n 0, 1) := by decide +kernel
theorem rd_d_X9_betterWay_8 : decode tX9_betterWay.1.2.1 8 = .ok (.iload_n 1, 1) := by decide +kernel
theorem rd_d_X9_betterWay_9 : decode tX9_betterWay.1.2.1 9 = .ok (.iconst 0, 1) := by decide +kernel
theorem rd_d_X9_betterWay_10 : decode tX9_betterWay.1.2.1 10 = .ok (.iload_n 2, 1) := by decide +kernel
theorem rd_d_X9_betterWay_11 : decode tX9_betterWay.1.2.1 11 = .ok (.invokevirtual 164, 3) := by decide +kernel
theorem rd_k_X9_betterWay_11 : ex_lk ex_mt tX9_betterWay 11 (.invokevirtual 164) [0, 292, 262285] = true := by decide +kernel
theorem rd_d_X9_betterWay_14 : decode tX9_betterWay.1.2.1 14 = .ok (.if_icmp .le 7, 3) := by decide +kernel
theorem rd_d_X9_betterWay_17 : decode tX9_betterWay.1.2.1 17 = .ok (.iconst 1, 1) := by decide +kernel
theorem rd_d_X9_betterWay_18 : decode tX9_betterWay.1.2.1 18 = .ok (.goto 4, 3) := by decide +kernel
theorem rd_d_X9_betterWay_21 : decode tX9_betterWay.1.2.1 21 = .ok (.iconst 0, 1) := by decide +kernel
theorem rd_d_X9_betterWay_22 : decode tX9_betterWay.1.2.1 22 = .ok (.ireturn, 1) := by decide +kernel
theorem rd_d_X12_betterOf_0 : decode tX12_betterOf.1.2.1 0 = .ok (.aload_n 0, 1) := by decide +kernel
theorem rd_d_X12_betterOf_1 : decode tX12_betterOf.1.2.1 1 = .ok (.iload_n 1, 1) := by decide +kernel
theorem rd_d_X12_betterOf_2 : decode tX12_betterOf.1.2.1 2 = .ok (.iconst 1, 1) := by decide +kernel
theorem rd_d_X12_betterOf_3 : decode tX12_betterOf.1.2.1 3 = .ok (.iload_n 2, 1) := by decide +kernel
theorem rd_d_X12_betterOf_4 : decode tX12_betterOf.1.2.1 4 = .ok (.invokevirtual 279, 3) := by decide +kernel
theorem rd_k_X12_betterOf_4 : ex_lk ex_mt tX12_betterOf 4 (.invokevirtual 279) [0, 110, 524425] = true := by decide +kernel
theorem rd_d_X12_betterOf_7 : decode tX12_betterOf.1.2.1 7 = .ok (.aload_n 0, 1) := by decide +kernel
theorem rd_d_X12_betterOf_8 : decode tX12_betterOf.1.2.1 8 = .ok (.iload_n 1, 1) := by decide +kernel
theorem rd_d_X12_betterOf_9 : decode tX12_betterOf.1.2.1 9 = .ok (.iconst 0, 1) := by decide +kernel
theorem rd_d_X12_betterOf_10 : decode tX12_betterOf.1.2.1 10 = .ok (.iload_n 2, 1) := by decide +kernel
theorem rd_d_X12_betterOf_11 : decode tX12_betterOf.1.2.1 11 = .ok (.invokevirtual 279, 3) := by decide +kernel
theorem rd_k_X12_betterOf_11 : ex_lk ex_mt tX12_betterOf 11 (.invokevirtual 279) [0, 110, 524425] = true := by decide +kernel
theorem rd_d_X12_betterOf_14 : decode tX12_betterOf.1.2.1 14 = .ok (.if_icmp .le 7, 3) := by decide +kernel
theorem rd_d_X12_betterOf_17 : decode tX12_betterOf.1.2.1 17 = .ok (.iconst 1, 1) := by decide +kernel
theorem rd_d_X12_betterOf_18 : decode tX12_betterOf.1.2.1 18 = .ok (.goto 4, 3) := by decide +kernel
theorem rd_d_X12_betterOf_21 : decode tX12_betterOf.1.2.1 21 = .ok (.iconst 0, 1) := by decide +kernel
theorem rd_d_X12_betterOf_22 : decode tX12_betterOf.1.2.1 22 = .ok (.ireturn, 1) := by decide +kernel
theorem rd_d_X9_betterGain_0 : decode tX9_betterGain.1.2.1 0 = .ok (.aload_n 0, 1) := by decide +kernel
theorem rd_d_X9_betterGain_1 : decode tX9_betterGain.1.2.1 1 = .ok (.iload_n 1, 1) := by decide +kernel
theorem rd_d_X9_betterGain_2 : decode tX9_betterGain.1.2.1 2 = .ok (.iconst 0, 1) := by decide +kernel
theorem rd_d_X9_betterGain_3 : decode tX9_betterGain.1.2.1 3 = .ok (.iload_n 2, 1) := by decide +kernel
theorem rd_d_X9_betterGain_4 : decode tX9_betterGain.1.2.1 4 = .ok (.invokevirtual 164, 3) := by decide +kernel
theorem rd_k_X9_betterGain_4 : ex_lk ex_mt tX9_betterGain 4 (.invokevirtual 164) [0, 292, 262285] = true := by decide +kernel
theorem rd_d_X9_betterGain_7 : decode tX9_betterGain.1.2.1 7 = .ok (.aload_n 0, 1) := by decide +kernel
theorem rd_d_X9_betterGain_8 : decode tX9_betterGain.1.2.1 8 = .ok (.iload_n 1, 1) := by decide +kernel
theorem rd_d_X9_betterGain_9 : decode tX9_betterGain.1.2.1 9 = .ok (.iconst 1, 1) := by decide +kernel
theorem rd_d_X9_betterGain_10 : decode tX9_betterGain.1.2.1 10 = .ok (.iload_n 2, 1) := by decide +kernel
theorem rd_d_X9_betterGain_11 : decode tX9_betterGain.1.2.1 11 = .ok (.invokevirtual 164, 3) := by decide +kernel
theorem rd_k_X9_betterGain_11 : ex_lk ex_mt tX9_betterGain 11 (.invokevirtual 164) [0, 292, 262285] = true := by decide +kernel
theorem rd_d_X9_betterGain_14 : decode tX9_betterGain.1.2.1 14 = .ok (.invokestatic 128, 3) := by decide +kernel
theorem rd_k_X9_betterGain_14 : ex_lk ex_mt tX9_betterGain 14 (.invokestatic 128) [1, 0, 262271, 0] = true := by decide +kernel
theorem rd_d_X9_betterGain_17 : decode tX9_betterGain.1.2.1 17 = .ok (.ireturn, 1) := by decide +kernel
theorem rd_d_X12_mostAt_0 : decode tX12_mostAt.1.2.1 0 = .ok (.aload_n 0, 1) := by decide +kernel
theorem rd_d_X12_mostAt_1 : decode tX12_mostAt.1.2.1 1 = .ok (.iload_n 1, 1) := by decide +kernel
theorem rd_d_X12_mostAt_2 : decode tX12_mostAt.1.2.1 2 = .ok (.iconst 0, 1) := by decide +kernel
theorem rd_d_X12_mostAt_3 : decode tX12_mostAt.1.2.1 3 = .ok (.iload_n 2, 1) := by decide +kernel
theorem rd_d_X12_mostAt_4 : decode tX12_mostAt.1.2.1 4 = .ok (.invokevirtual 279, 3) := by decide +kernel
theorem rd_k_X12_mostAt_4 : ex_lk ex_mt tX12_mostAt 4 (.invokevirtual 279) [0, 110, 524425] = true := by decide +kernel
theorem rd_d_X12_mostAt_7 : decode tX12_mostAt.1.2.1 7 = .ok (.aload_n 0, 1) := by decide +kernel
theorem rd_d_X12_mostAt_8 : decode tX12_mostAt.1.2.1 8 = .ok (.iload_n 1, 1) := by decide +kernel
theorem rd_d_X12_mostAt_9 : decode tX12_mostAt.1.2.1 9 = .ok (.iconst 1, 1) := by decide +kernel
theorem rd_d_X12_mostAt_10 : decode tX12_mostAt.1.2.1 10 = .ok (.iload_n 2, 1) := by decide +kernel
theorem rd_d_X12_mostAt_11 : decode tX12_mostAt.1.2.1 11 = .ok (.invokevirtual 279, 3) := by decide +kernel
theorem rd_k_X12_mostAt_11 : ex_lk ex_mt tX12_mostAt 11 (.invokevirtual 279) [0, 110, 524425] = true := by decide +kernel
theorem rd_d_X12_mostAt_14 : decode tX12_mostAt.1.2.1 14 = .ok (.invokestatic 201, 3) := by decide +kernel
theorem rd_k_X12_mostAt_14 : ex_lk ex_mt tX12_mostAt 14 (.invokestatic 201) [0, 111, 524303] = true := by decide +kernel
theorem rd_d_X12_mostAt_17 : decode tX12_mostAt.1.2.1 17 = .ok (.ireturn, 1) := by decide +kernel
theorem rd_d_X11_idle_0 : decode tX11_idle.1.2.1 0 = .ok (.bipush 59, 2) := by decide +kernel
theorem rd_d_X11_idle_2 : decode tX11_idle.1.2.1 2 = .ok (.istore_n 1, 1) := by decide +kernel
theorem rd_d_X11_idle_3 : decode tX11_idle.1.2.1 3 = .ok (.iload_n 1, 1) := by decide +kernel
theorem rd_d_X11_idle_4 : decode tX11_idle.1.2.1 4 = .ok (.ifCond .lt 44, 3) := by decide +kernel
theorem rd_d_X11_idle_7 : decode tX11_idle.1.2.1 7 = .ok (.iconst 0, 1) := by decide +kernel
theorem rd_d_X11_idle_8 : decode tX11_idle.1.2.1 8 = .ok (.istore_n 2, 1) := by decide +kernel
theorem rd_d_X11_idle_9 : decode tX11_idle.1.2.1 9 = .ok (.iload_n 2, 1) := by decide +kernel
theorem rd_d_X11_idle_10 : decode tX11_idle.1.2.1 10 = .ok (.aload_n 0, 1) := by decide +kernel
theorem rd_d_X11_idle_11 : decode tX11_idle.1.2.1 11 = .ok (.getfield 28, 3) := by decide +kernel
theorem rd_k_X11_idle_11 : ex_lk ex_mt tX11_idle 11 (.getfield 28) [11, 2, 2, 131261] = true := by decide +kernel
theorem rd_d_X11_idle_14 : decode tX11_idle.1.2.1 14 = .ok (.getfield 291, 3) := by decide +kernel
theorem rd_k_X11_idle_14 : ex_lk ex_mt tX11_idle 14 (.getfield 291) [9, 7, 0, 65659] = true := by decide +kernel
theorem rd_d_X11_idle_17 : decode tX11_idle.1.2.1 17 = .ok (.if_icmp .ge 25, 3) := by decide +kernel
theorem rd_d_X11_idle_20 : decode tX11_idle.1.2.1 20 = .ok (.aload_n 0, 1) := by decide +kernel
theorem rd_d_X11_idle_21 : decode tX11_idle.1.2.1 21 = .ok (.getfield 28, 3) := by decide +kernel
theorem rd_k_X11_idle_21 : ex_lk ex_mt tX11_idle 21 (.getfield 28) [11, 2, 2, 131261] = true := by decide +kernel
theorem rd_d_X11_idle_24 : decode tX11_idle.1.2.1 24 = .ok (.iload_n 2, 1) := by decide +kernel
theorem rd_d_X11_idle_25 : decode tX11_idle.1.2.1 25 = .ok (.iload_n 1, 1) := by decide +kernel
theorem rd_d_X11_idle_26 : decode tX11_idle.1.2.1 26 = .ok (.invokevirtual 385, 3) := by decide +kernel
theorem rd_k_X11_idle_26 : ex_lk ex_mt tX11_idle 26 (.invokevirtual 385) [0, 287, 327814] = true := by decide +kernel
theorem rd_d_X11_idle_29 : decode tX11_idle.1.2.1 29 = .ok (.ifCond .le 7, 3) := by decide +kernel
theorem rd_d_X11_idle_32 : decode tX11_idle.1.2.1 32 = .ok (.iload_n 1, 1) := by decide +kernel
theorem rd_d_X11_idle_33 : decode tX11_idle.1.2.1 33 = .ok (.iconst 1, 1) := by decide +kernel
theorem rd_d_X11_idle_34 : decode tX11_idle.1.2.1 34 = .ok (.iadd, 1) := by decide +kernel
theorem rd_d_X11_idle_35 : decode tX11_idle.1.2.1 35 = .ok (.ireturn, 1) := by decide +kernel
theorem rd_d_X11_idle_36 : decode tX11_idle.1.2.1 36 = .ok (.iinc 2 1, 3) := by decide +kernel
theorem rd_d_X11_idle_39 : decode tX11_idle.1.2.1 39 = .ok (.goto (-30), 3) := by decide +kernel
theorem rd_d_X11_idle_42 : decode tX11_idle.1.2.1 42 = .ok (.iinc 1 (-1), 3) := by decide +kernel
theorem rd_d_X11_idle_45 : decode tX11_idle.1.2.1 45 = .ok (.goto (-42), 3) := by decide +kernel
theorem rd_d_X11_idle_48 : decode tX11_idle.1.2.1 48 = .ok (.iconst 0, 1) := by decide +kernel
theorem rd_d_X11_idle_49 : decode tX11_idle.1.2.1 49 = .ok (.ireturn, 1) := by decide +kernel
theorem rd_d_X12_idle_0 : decode tX12_idle.1.2.1 0 = .ok (.aload_n 0, 1) := by decide +kernel
theorem rd_d_X12_idle_1 : decode tX12_idle.1.2.1 1 = .ok (.iconst 0, 1) := by decide +kernel
theorem rd_d_X12_idle_2 : decode tX12_idle.1.2.1 2 = .ok (.putfield 1, 3) := by decide +kernel
theorem rd_k_X12_idle_2 : ex_lk ex_mt tX12_idle 2 (.putfield 1) [12, 0, 0, 458767] = true := by decide +kernel
theorem rd_d_X12_idle_5 : decode tX12_idle.1.2.1 5 = .ok (.bipush 60, 2) := by decide +kernel
theorem rd_d_X12_idle_7 : decode tX12_idle.1.2.1 7 = .ok (.istore_n 1, 1) := by decide +kernel
theorem rd_d_X12_idle_8 : decode tX12_idle.1.2.1 8 = .ok (.iconst 1, 1) := by decide +kernel
theorem rd_d_X12_idle_9 : decode tX12_idle.1.2.1 9 = .ok (.istore_n 2, 1) := by decide +kernel
theorem rd_d_X12_idle_10 : decode tX12_idle.1.2.1 10 = .ok (.iload_n 1, 1) := by decide +kernel
theorem rd_d_X12_idle_11 : decode tX12_idle.1.2.1 11 = .ok (.ifCond .le 56, 3) := by decide +kernel
theorem rd_d_X12_idle_14 : decode tX12_idle.1.2.1 14 = .ok (.iload_n 2, 1) := by decide +kernel
theorem rd_d_X12_idle_15 : decode tX12_idle.1.2.1 15 = .ok (.ifCond .eq 52, 3) := by decide +kernel
theorem rd_d_X12_idle_18 : decode tX12_idle.1.2.1 18 = .ok (.iconst 0, 1) := by decide +kernel
theorem rd_d_X12_idle_19 : decode tX12_idle.1.2.1 19 = .ok (.istore_n 3, 1) := by decide +kernel
theorem rd_d_X12_idle_20 : decode tX12_idle.1.2.1 20 = .ok (.iload_n 3, 1) := by decide +kernel
theorem rd_d_X12_idle_21 : decode tX12_idle.1.2.1 21 = .ok (.aload_n 0, 1) := by decide +kernel
theorem rd_d_X12_idle_22 : decode tX12_idle.1.2.1 22 = .ok (.getfield 33, 3) := by decide +kernel
theorem rd_k_X12_idle_22 : ex_lk ex_mt tX12_idle 22 (.getfield 33) [12, 6, 2, 458773] = true := by decide +kernel
theorem rd_d_X12_idle_25 : decode tX12_idle.1.2.1 25 = .ok (.iconst 0, 1) := by decide +kernel
theorem rd_d_X12_idle_26 : decode tX12_idle.1.2.1 26 = .ok (.iaload, 1) := by decide +kernel
theorem rd_d_X12_idle_27 : decode tX12_idle.1.2.1 27 = .ok (.if_icmp .ge 30, 3) := by decide +kernel
theorem rd_d_X12_idle_30 : decode tX12_idle.1.2.1 30 = .ok (.iload_n 2, 1) := by decide +kernel
theorem rd_d_X12_idle_31 : decode tX12_idle.1.2.1 31 = .ok (.ifCond .eq 18, 3) := by decide +kernel
theorem rd_d_X12_idle_34 : decode tX12_idle.1.2.1 34 = .ok (.aload_n 0, 1) := by decide +kernel
theorem rd_d_X12_idle_35 : decode tX12_idle.1.2.1 35 = .ok (.iload_n 3, 1) := by decide +kernel
theorem rd_d_X12_idle_36 : decode tX12_idle.1.2.1 36 = .ok (.iload_n 1, 1) := by decide +kernel
theorem rd_d_X12_idle_37 : decode tX12_idle.1.2.1 37 = .ok (.iconst 1, 1) := by decide +kernel
theorem rd_d_X12_idle_38 : decode tX12_idle.1.2.1 38 = .ok (.isub, 1) := by decide +kernel
theorem rd_d_X12_idle_39 : decode tX12_idle.1.2.1 39 = .ok (.invokevirtual 295, 3) := by decide +kernel
theorem rd_k_X12_idle_39 : ex_lk ex_mt tX12_idle 39 (.invokevirtual 295) [0, 138, 524472] = true := by decide +kernel
theorem rd_d_X12_idle_42 : decode tX12_idle.1.2.1 42 = .ok (.ifCond .ne 7, 3) := by decide +kernel
theorem rd_d_X12_idle_45 : decode tX12_idle.1.2.1 45 = .ok (.iconst 1, 1) := by decide +kernel
theorem rd_d_X12_idle_46 : decode tX12_idle.1.2.1 46 = .ok (.goto 4, 3) := by decide +kernel
theorem rd_d_X12_idle_49 : decode tX12_idle.1.2.1 49 = .ok (.iconst 0, 1) := by decide +kernel
theorem rd_d_X12_idle_50 : decode tX12_idle.1.2.1 50 = .ok (.istore_n 2, 1) := by decide +kernel
theorem rd_d_X12_idle_51 : decode tX12_idle.1.2.1 51 = .ok (.iinc 3 1, 3) := by decide +kernel
theorem rd_d_X12_idle_54 : decode tX12_idle.1.2.1 54 = .ok (.goto (-34), 3) := by decide +kernel
theorem rd_d_X12_idle_57 : decode tX12_idle.1.2.1 57 = .ok (.iload_n 2, 1) := by decide +kernel
theorem rd_d_X12_idle_58 : decode tX12_idle.1.2.1 58 = .ok (.ifCond .eq (-48), 3) := by decide +kernel
theorem rd_d_X12_idle_61 : decode tX12_idle.1.2.1 61 = .ok (.iinc 1 (-1), 3) := by decide +kernel
theorem rd_d_X12_idle_64 : decode tX12_idle.1.2.1 64 = .ok (.goto (-54), 3) := by decide +kernel
theorem rd_d_X12_idle_67 : decode tX12_idle.1.2.1 67 = .ok (.iload_n 1, 1) := by decide +kernel
theorem rd_d_X12_idle_68 : decode tX12_idle.1.2.1 68 = .ok (.ireturn, 1) := by decide +kernel
section AXX
variable {g : am_C} {L : Nat} {xs : Nat → Int32}
def pl_Bm (σ : am_S) : Prop := (0 ≤ (σ.2.1 4 7).toInt ∧ (σ.2.1 4 7).toInt ≤ 10) ∧ (0 ≤ (σ.2.1 4 8).toInt ∧ (σ.2.1 4 8).toInt ≤ 6) ∧ pl_B (σ.2.1 120)
theorem pl_Bm_of {σe σ : am_S} {m : Nat} (hM : sx_M z9 hd_C σe m 0 σ) : pl_Bm σ := ⟨hM.2.2.1 4 7 _ _ _ rfl, hM.2.2.1 4 8 _ _ _ rfl, (pl_BM hM).1⟩
def ax_f_has (m : Nat → Nat → Int32) (a : Int32) : Int32 := if a < 0 then 0 else if (m 4 7) ≤ a then 0 else 1
theorem ax_has (G : sx_G0 g L xs z9 hd_C ex_mt) {σ : am_S} (hS : ax_S σ) (a : Int32) : am_K g 1 tX9_has.1 0 0 0 (lv_args 0 [.ref 4, .int a]) [] σ (ax_R (ax_f_has σ.2.1 a) σ) := by
  refine kr_iload_n 1 rd_d_X9_has_0 rfl ?_
  refine kr_if_lt (tgt := 16) rd_d_X9_has_1 rfl (fun h1 => ?_) (fun h1 => ?_)
  · refine kr_iconst (v := 0) rd_d_X9_has_16 (by decide) ?_
    exact kr_ireturn rd_d_X9_has_17 (ty := .boolean) rfl rfl ⟨by rw [ax_f_has, if_pos h1], rfl⟩
  · refine kr_iload_n 1 rd_d_X9_has_4 rfl ?_
    refine kr_aload_n 0 rd_d_X9_has_5 rfl ?_
    refine kr_getf G.1 (rd_FL rd_k_X9_has_6).1 rd_d_X9_has_6 (hS.1 4 (.inl 9) rfl) (v := .int (σ.2.1 4 7)) (by unfold am_fa; rw [(rd_FL rd_k_X9_has_6).2]; rfl) ?_
    refine kr_icmp_ge (tgt := 16) rd_d_X9_has_9 rfl (fun h2 => ?_) (fun h2 => ?_)
    · refine kr_iconst (v := 0) rd_d_X9_has_16 (by decide) ?_
      exact kr_ireturn rd_d_X9_has_17 (ty := .boolean) rfl rfl ⟨by rw [ax_f_has, if_neg h1, if_pos h2], rfl⟩
    · refine kr_iconst (v := 1) rd_d_X9_has_12 (by decide) ?_
      refine kr_goto (tgt := 17) rd_d_X9_has_13 rfl ?_
      exact kr_ireturn rd_d_X9_has_17 (ty := .boolean) rfl rfl ⟨by rw [ax_f_has, if_neg h1, if_neg h2], rfl⟩
def ax_f_win (s : Nat → Int32) (a : Int32) : Int32 := ax_f_isIn a 0 ((s 0) - 1)
theorem ax_win (G : sx_G0 g L xs z9 hd_C ex_mt) {σ : am_S} (hS : ax_S σ) (a : Int32) : am_K g 2 tX12_isWindow.1 0 0 0 (lv_args 0 [.ref 118, .int a]) [] σ (ax_R (ax_f_win (σ.2.1 120) a) σ) := by
  refine kr_iload_n 1 rd_d_X12_isWindow_0 rfl ?_
  refine kr_iconst (v := 0) rd_d_X12_isWindow_1 (by decide) ?_
  refine kr_aload_n 0 rd_d_X12_isWindow_2 rfl ?_
  refine kr_getf G.1 (rd_FL rd_k_X12_isWindow_3).1 rd_d_X12_isWindow_3 (hS.1 118 (.inl 12) rfl) (v := .ref 120) (by unfold am_fa; rw [(rd_FL rd_k_X12_isWindow_3).2]; exact hS.2 118 6 120 rfl) ?_
  refine kr_iconst (v := 0) rd_d_X12_isWindow_6 (by decide) ?_
  refine kr_iald G.1 (n := 277) rd_d_X12_isWindow_7 (hS.1 120 (.inr (.int, 277)) rfl) (hd_in (n := 0) (by decide) (by decide)) ?_
  rw [hd_clamp (n := 0) (by decide)]
  refine kr_iconst (v := 1) rd_d_X12_isWindow_8 (by decide) ?_
  refine kr_isub rd_d_X12_isWindow_9 ?_
  refine rd_callS G (T2 := tX12_isIn) rfl rd_d_X12_isWindow_10 rd_k_X12_isWindow_10 rfl rfl (as := [.int a, .int 0, .int ((σ.2.1 120 0) - 1)]) (st := []) rfl (Nat.le_of_ble_eq_true rfl) rfl (Nat.le_of_ble_eq_true rfl) (d1 := 1) (by decide) (fun _ h => by cases h.1) (ax_isIn G hS a 0 ((σ.2.1 120 0) - 1)) ?_
  intro v1 σ1 ⟨hv1, hs1⟩
  cases hv1
  rw [hs1]
  exact kr_ireturn rd_d_X12_isWindow_13 (ty := .boolean) rfl (ax_isIn_b _ _ _) ⟨rfl, rfl⟩
theorem ax_winI {s : Nat → Int32} (b : pl_B s) {a : Int32} (h : ¬ ax_f_win s a = 0) : 0 ≤ a.toInt ∧ a.toInt < (s 0).toInt ∧ a.toInt < 10 := by
  have z0 : (0 : Int32).toInt = 0 := rfl
  have z1 : (1 : Int32).toInt = 1 := rfl
  obtain ⟨⟨b1, b2⟩, -⟩ := b
  have e := sx_subI (s 0) 1 (by show (-2147483648 : Int) ≤ _; omega) (by show _ ≤ (2147483647 : Int); omega)
  rw [ax_f_win, ax_f_isIn] at h
  split at h
  · exact absurd rfl h
  · rename_i q1
    split at h
    · exact absurd rfl h
    · rename_i q2
      have g1 : ¬ a.toInt < 0 := fun q => q1 (Int32.lt_iff_toInt_lt.mpr (by omega))
      have g2 : ¬ (s 0 - 1).toInt < a.toInt := fun q => q2 (Int32.lt_iff_toInt_lt.mpr q)
      omega
theorem ax_win10 {s : Nat → Int32} (b : pl_B s) {a : Int32} (h : ¬ ax_f_win s a = 0) : 0 ≤ a.toInt ∧ a.toInt < 10 := ⟨(ax_winI b h).1, (ax_winI b h).2.2⟩
theorem pl_w {m : Nat → Nat → Int32} {o : Nat} {s : Nat → Int32} (h : pl_R m o s) : m o 7 = s 0 := Int32.toInt_inj.mp h.1
theorem ax_hasE {m : Nat → Nat → Int32} {s : Nat → Int32} (h : pl_R m 4 s) (b : pl_B s) (a : Int32) : ax_f_has m a = ax_f_win s a := by
  have z0 : (0 : Int32).toInt = 0 := rfl
  have z1 : (1 : Int32).toInt = 1 := rfl
  have hw := pl_w h
  obtain ⟨⟨b1, b2⟩, -⟩ := b
  have e := sx_subI (s 0) 1 (by show (-2147483648 : Int) ≤ _; omega) (by show _ ≤ (2147483647 : Int); omega)
  rw [ax_f_has, ax_f_win, ax_f_isIn, hw]
  by_cases g1 : a < 0
  · rw [if_pos g1, if_pos g1]
  · rw [if_neg g1, if_neg g1]
    by_cases g2 : s 0 ≤ a
    · rw [if_pos g2, if_pos (Int32.lt_iff_toInt_lt.mpr (by have := Int32.le_iff_toInt_le.mp g2; omega))]
    · rw [if_neg g2, if_neg (fun q => g2 (Int32.le_iff_toInt_le.mpr (by have := Int32.lt_iff_toInt_lt.mp q; omega)))]
theorem ax_rowE {m : Nat → Nat → Int32} {s : Nat → Int32} (h : pl_R m 4 s) (b : pl_B s) {a : Int32} (ha : ¬ ax_f_win s a = 0) {r : Nat} (hr : r < 4) : ax_ent (m (5 + r)) 10 a = s (rc_bs r + a.toInt.toNat) := by
  obtain ⟨a1, a2, a3⟩ := ax_winI b ha
  rw [ax_ent_in (k := a.toInt.toNat) (by decide) (by omega) (by omega)]
  have := h.2.2.2 r (by omega) a.toInt.toNat (by rw [rc_c, if_pos hr]; omega)
  rw [show 4 + 1 + r = 5 + r by omega] at this
  exact this
theorem ax_setE {m : Nat → Nat → Int32} {s : Nat → Int32} (h : pl_R m 4 s) {a : Int32} {j : Nat} (e : a.toInt = (j : Int)) (hj : j < 8) : ax_ent (m 11) 8 a = s (54 + j) := by
  rw [ax_ent_in (k := j) (by decide) e hj]
  exact h.2.2.2 6 (by decide) j hj
def ax_f_pri (m : Nat → Nat → Int32) (a : Int32) : Int32 := ax_ent (m 5) 10 a
theorem ax_pri (G : sx_G0 g L xs z9 hd_C ex_mt) {σ : am_S} (hS : ax_S σ) (a : Int32) : am_K g 2 tX9_priceOf.1 0 0 0 (lv_args 0 [.ref 4, .int a]) [] σ (ax_R (ax_f_pri σ.2.1 a) σ) := by
  refine kr_aload_n 0 rd_d_X9_priceOf_0 rfl ?_
  refine kr_getf G.1 (rd_FL rd_k_X9_priceOf_1).1 rd_d_X9_priceOf_1 (hS.1 4 (.inl 9) rfl) (v := .ref 5) (by unfold am_fa; rw [(rd_FL rd_k_X9_priceOf_1).2]; exact hS.2 4 0 5 rfl) ?_
  refine kr_iload_n 1 rd_d_X9_priceOf_4 rfl ?_
  refine rd_callS G (T2 := tX11_entry) rfl rd_d_X9_priceOf_5 rd_k_X9_priceOf_5 rfl rfl (as := [.ref 5, .int a]) (st := []) rfl (Nat.le_of_ble_eq_true rfl) rfl (Nat.le_of_ble_eq_true rfl) (d1 := 1) (by decide) (fun _ h => by cases h.1) (ax_entry G (hS.1 5 (.inr (.int, 10)) rfl) (by decide) a) ?_
  intro v1 σ1 ⟨hv1, hs1⟩
  cases hv1
  rw [hs1]
  exact kr_ireturn rd_d_X9_priceOf_8 (ty := .int) rfl rfl ⟨rfl, rfl⟩
def ax_f_tak (m : Nat → Nat → Int32) (a : Int32) : Int32 := ax_ent (m 6) 10 a
theorem ax_tak (G : sx_G0 g L xs z9 hd_C ex_mt) {σ : am_S} (hS : ax_S σ) (a : Int32) : am_K g 2 tX9_takesOf.1 0 0 0 (lv_args 0 [.ref 4, .int a]) [] σ (ax_R (ax_f_tak σ.2.1 a) σ) := by
  refine kr_aload_n 0 rd_d_X9_takesOf_0 rfl ?_
  refine kr_getf G.1 (rd_FL rd_k_X9_takesOf_1).1 rd_d_X9_takesOf_1 (hS.1 4 (.inl 9) rfl) (v := .ref 6) (by unfold am_fa; rw [(rd_FL rd_k_X9_takesOf_1).2]; exact hS.2 4 1 6 rfl) ?_
  refine kr_iload_n 1 rd_d_X9_takesOf_4 rfl ?_
  refine rd_callS G (T2 := tX11_entry) rfl rd_d_X9_takesOf_5 rd_k_X9_takesOf_5 rfl rfl (as := [.ref 6, .int a]) (st := []) rfl (Nat.le_of_ble_eq_true rfl) rfl (Nat.le_of_ble_eq_true rfl) (d1 := 1) (by decide) (fun _ h => by cases h.1) (ax_entry G (hS.1 6 (.inr (.int, 10)) rfl) (by decide) a) ?_
  intro v1 σ1 ⟨hv1, hs1⟩
  cases hv1
  rw [hs1]
  exact kr_ireturn rd_d_X9_takesOf_8 (ty := .int) rfl rfl ⟨rfl, rfl⟩
def ax_s_wfX (m : Nat → Nat → Int32) (t : Int32) (rec : Int32 → Int32 → Int32) (k z : Int32) : Int32 := if (m 4 8) ≤ k then z else if (nI 6) ≤ k then z else if (nI 6) ≤ k then z else if (m 9 k.toInt.toNat) < t then rec (k + 1) z else rec (k + 1) (z + (m 10 k.toInt.toNat))
def ax_l_wfX (m : Nat → Nat → Int32) (t : Int32) : Nat → Int32 → Int32 → Int32
  | 0, k, z => ax_s_wfX m t (fun _ _ => 0) k z
  | f + 1, k, z => ax_s_wfX m t (ax_l_wfX m t f) k z
theorem ax_l_wfX_zero (m : Nat → Nat → Int32) (t : Int32) (k z : Int32) : ax_l_wfX m t 0 k z = ax_s_wfX m t (fun _ _ => 0) k z := rfl
theorem ax_l_wfX_succ (m : Nat → Nat → Int32) (t : Int32) (f : Nat) (k z : Int32) : ax_l_wfX m t (f + 1) k z = ax_s_wfX m t (ax_l_wfX m t f) k z := rfl
theorem ax_lo_wfX (G : sx_G0 g L xs z9 hd_C ex_mt) {σ : am_S} (hS : ax_S σ) (t : Int32) (hb : (σ.2.1 4 8).toInt ≤ 6) : ∀ (f j : Nat) (k z : Int32), k.toInt = (j : Int) → j + f = 6 → am_K g 1 tX9_weightFrom.1 0 0 4 [(3, .int k), (2, .int z), (0, .ref 4), (1, .int t)] [] σ (ax_R (ax_l_wfX σ.2.1 t f k z) σ) := by
  intro f
  induction f with
  | zero =>
    intro j k z ek hj
    refine kr_iload_n 0 rd_d_X9_weightFrom_4 rfl ?_
    refine kr_aload_n 2 rd_d_X9_weightFrom_5 rfl ?_
    refine kr_getf G.1 (rd_FL rd_k_X9_weightFrom_6).1 rd_d_X9_weightFrom_6 (hS.1 4 (.inl 9) rfl) (v := .int (σ.2.1 4 8)) (by unfold am_fa; rw [(rd_FL rd_k_X9_weightFrom_6).2]; rfl) ?_
    refine kr_icmp_ge (tgt := 55) rd_d_X9_weightFrom_9 rfl (fun h1 => ?_) (fun h1 => ?_)
    · refine kr_iload_n 1 rd_d_X9_weightFrom_55 rfl ?_
      exact kr_ireturn rd_d_X9_weightFrom_56 (ty := .int) rfl rfl ⟨by rw [ax_l_wfX_zero, ax_s_wfX, if_pos h1], rfl⟩
    · exact absurd (Int32.le_iff_toInt_le.mpr (by omega)) h1
  | succ f ih =>
    intro j k z ek hj
    refine kr_iload_n 0 rd_d_X9_weightFrom_4 rfl ?_
    refine kr_aload_n 2 rd_d_X9_weightFrom_5 rfl ?_
    refine kr_getf G.1 (rd_FL rd_k_X9_weightFrom_6).1 rd_d_X9_weightFrom_6 (hS.1 4 (.inl 9) rfl) (v := .int (σ.2.1 4 8)) (by unfold am_fa; rw [(rd_FL rd_k_X9_weightFrom_6).2]; rfl) ?_
    refine kr_icmp_ge (tgt := 55) rd_d_X9_weightFrom_9 rfl (fun h1 => ?_) (fun h1 => ?_)
    · refine kr_iload_n 1 rd_d_X9_weightFrom_55 rfl ?_
      exact kr_ireturn rd_d_X9_weightFrom_56 (ty := .int) rfl rfl ⟨by rw [ax_l_wfX_succ, ax_s_wfX, if_pos h1], rfl⟩
    · refine kr_iload_n 0 rd_d_X9_weightFrom_12 rfl ?_
      refine kr_aload_n 2 rd_d_X9_weightFrom_13 rfl ?_
      refine kr_getf G.1 (rd_FL rd_k_X9_weightFrom_14).1 rd_d_X9_weightFrom_14 (hS.1 4 (.inl 9) rfl) (v := .ref 9) (by unfold am_fa; rw [(rd_FL rd_k_X9_weightFrom_14).2]; exact hS.2 4 4 9 rfl) ?_
      refine kr_alenI G.1 (n := 6) rd_d_X9_weightFrom_17 (hS.1 9 (.inr (.int, 6)) rfl) ?_
      refine kr_icmp_ge (tgt := 55) rd_d_X9_weightFrom_18 rfl (fun h2 => ?_) (fun h2 => ?_)
      · refine kr_iload_n 1 rd_d_X9_weightFrom_55 rfl ?_
        exact kr_ireturn rd_d_X9_weightFrom_56 (ty := .int) rfl rfl ⟨by rw [ax_l_wfX_succ, ax_s_wfX, if_neg h1, if_pos h2], rfl⟩
      · refine kr_iload_n 0 rd_d_X9_weightFrom_21 rfl ?_
        refine kr_aload_n 2 rd_d_X9_weightFrom_22 rfl ?_
        refine kr_getf G.1 (rd_FL rd_k_X9_weightFrom_23).1 rd_d_X9_weightFrom_23 (hS.1 4 (.inl 9) rfl) (v := .ref 10) (by unfold am_fa; rw [(rd_FL rd_k_X9_weightFrom_23).2]; exact hS.2 4 5 10 rfl) ?_
        refine kr_alenI G.1 (n := 6) rd_d_X9_weightFrom_26 (hS.1 10 (.inr (.int, 6)) rfl) ?_
        refine kr_icmp_ge (tgt := 55) rd_d_X9_weightFrom_27 rfl (fun h3 => ?_) (fun h3 => ?_)
        · refine kr_iload_n 1 rd_d_X9_weightFrom_55 rfl ?_
          exact kr_ireturn rd_d_X9_weightFrom_56 (ty := .int) rfl rfl ⟨by rw [ax_l_wfX_succ, ax_s_wfX, if_neg h1, if_neg h2, if_pos h3], rfl⟩
        · refine kr_aload_n 2 rd_d_X9_weightFrom_30 rfl ?_
          refine kr_getf G.1 (rd_FL rd_k_X9_weightFrom_31).1 rd_d_X9_weightFrom_31 (hS.1 4 (.inl 9) rfl) (v := .ref 9) (by unfold am_fa; rw [(rd_FL rd_k_X9_weightFrom_31).2]; exact hS.2 4 4 9 rfl) ?_
          refine kr_iload_n 0 rd_d_X9_weightFrom_34 rfl ?_
          refine kr_iald G.1 (n := 6) rd_d_X9_weightFrom_35 (hS.1 9 (.inr (.int, 6)) rfl) (hd_in (n := k.toInt.toNat) (by omega) (by omega)) ?_
          rw [hd_clamp (n := k.toInt.toNat) (by omega)]
          refine kr_iload_n 3 rd_d_X9_weightFrom_36 rfl ?_
          refine kr_icmp_lt (tgt := 49) rd_d_X9_weightFrom_37 rfl (fun h4 => ?_) (fun h4 => ?_)
          · refine kr_iinc (v := k + 1) (lv' := [(3, .int (k + 1)), (2, .int z), (0, .ref 4), (1, .int t)]) 0 rd_d_X9_weightFrom_49 rfl rfl (by decide) rfl ?_
            refine kr_goto (tgt := 4) rd_d_X9_weightFrom_52 rfl ?_
            rw [ax_l_wfX_succ, ax_s_wfX, if_neg h1, if_neg h2, if_neg h3, if_pos h4]
            exact ih (j + 1) (k + 1) z (ax_inc ek (by omega)) (by omega)
          · refine kr_iload_n 1 rd_d_X9_weightFrom_40 rfl ?_
            refine kr_aload_n 2 rd_d_X9_weightFrom_41 rfl ?_
            refine kr_getf G.1 (rd_FL rd_k_X9_weightFrom_42).1 rd_d_X9_weightFrom_42 (hS.1 4 (.inl 9) rfl) (v := .ref 10) (by unfold am_fa; rw [(rd_FL rd_k_X9_weightFrom_42).2]; exact hS.2 4 5 10 rfl) ?_
            refine kr_iload_n 0 rd_d_X9_weightFrom_45 rfl ?_
            refine kr_iald G.1 (n := 6) rd_d_X9_weightFrom_46 (hS.1 10 (.inr (.int, 6)) rfl) (hd_in (n := k.toInt.toNat) (by omega) (by omega)) ?_
            rw [hd_clamp (n := k.toInt.toNat) (by omega)]
            refine kr_iadd rd_d_X9_weightFrom_47 ?_
            refine kr_istore_n (lv' := [(2, .int (z + (σ.2.1 10 k.toInt.toNat))), (3, .int k), (0, .ref 4), (1, .int t)]) rd_d_X9_weightFrom_48 (by decide) rfl ?_
            refine kr_iinc (v := k + 1) (lv' := [(3, .int (k + 1)), (2, .int (z + (σ.2.1 10 k.toInt.toNat))), (0, .ref 4), (1, .int t)]) 1 rd_d_X9_weightFrom_49 rfl rfl (by decide) rfl ?_
            refine kr_goto (tgt := 4) rd_d_X9_weightFrom_52 rfl ?_
            rw [ax_l_wfX_succ, ax_s_wfX, if_neg h1, if_neg h2, if_neg h3, if_neg h4]
            exact ih (j + 1) (k + 1) (z + (σ.2.1 10 k.toInt.toNat)) (ax_inc ek (by omega)) (by omega)
def ax_f_wf (m : Nat → Nat → Int32) (t : Int32) : Int32 := ax_l_wfX m t 6 0 0
theorem ax_wf (G : sx_G0 g L xs z9 hd_C ex_mt) {σ : am_S} (hS : ax_S σ) (t : Int32) (hb : pl_Bm σ) : am_K g 1 tX9_weightFrom.1 0 0 0 (lv_args 0 [.ref 4, .int t]) [] σ (ax_R (ax_f_wf σ.2.1 t) σ) := by
  refine kr_iconst (v := 0) rd_d_X9_weightFrom_0 (by decide) ?_
  refine kr_istore_n (lv' := [(2, .int 0), (0, .ref 4), (1, .int t)]) rd_d_X9_weightFrom_1 (by decide) rfl ?_
  refine kr_iconst (v := 0) rd_d_X9_weightFrom_2 (by decide) ?_
  refine kr_istore_n (lv' := [(3, .int 0), (2, .int 0), (0, .ref 4), (1, .int t)]) rd_d_X9_weightFrom_3 (by decide) rfl ?_
  rw [ax_f_wf]
  exact kr_less (by decide) (Nat.le_refl _) (Nat.le_refl _) (ax_lo_wfX G hS t hb.2.1.2 6 0 0 0 rfl rfl)
def ax_s_sdM (s : Nat → Int32) (t : Int32) (rec : Int32 → Int32 → Int32) (k z : Int32) : Int32 := if (ax_f_many (s)) ≤ k then z else if (ax_f_secM (s) k (k.toInt.toNat)) < t then rec (k + 1) (z + 0) else rec (k + 1) (z + (ax_f_wgtM (s) k (k.toInt.toNat)))
def ax_l_sdM (s : Nat → Int32) (t : Int32) : Nat → Int32 → Int32 → Int32
  | 0, k, z => ax_s_sdM s t (fun _ _ => 0) k z
  | f + 1, k, z => ax_s_sdM s t (ax_l_sdM s t f) k z
theorem ax_l_sdM_zero (s : Nat → Int32) (t : Int32) (k z : Int32) : ax_l_sdM s t 0 k z = ax_s_sdM s t (fun _ _ => 0) k z := rfl
theorem ax_l_sdM_succ (s : Nat → Int32) (t : Int32) (f : Nat) (k z : Int32) : ax_l_sdM s t (f + 1) k z = ax_s_sdM s t (ax_l_sdM s t f) k z := rfl
theorem ax_lo_sdM (G : sx_G0 g L xs z9 hd_C ex_mt) {σ : am_S} (hS : ax_S σ) (t : Int32) (hb : 0 ≤ (σ.2.1 120 1).toInt ∧ (σ.2.1 120 1).toInt ≤ 6) : ∀ (f j : Nat) (k z : Int32), k.toInt = (j : Int) → j + f = 6 → am_K g 3 tX12_standing.1 0 0 4 [(3, .int k), (2, .int z), (0, .ref 118), (1, .int t)] [] σ (ax_R (ax_l_sdM (σ.2.1 120) t f k z) σ) := by
  intro f
  induction f with
  | zero =>
    intro j k z ek hj
    refine kr_iload_n 0 rd_d_X12_standing_4 rfl ?_
    refine kr_aload_n 2 rd_d_X12_standing_5 rfl ?_
    refine rd_call G (T2 := tX12_standMany) rfl rd_d_X12_standing_6 rd_k_X12_standing_6 rfl (hS.1 118 (.inl 12) rfl) (as := []) (st := [.int k]) rfl (Nat.le_of_ble_eq_true rfl) rfl (Nat.le_of_ble_eq_true rfl) (d1 := 2) (by decide) (fun _ h => by cases h.1) (ax_many G hS ) ?_
    intro v1 σ1 ⟨hv1, hs1⟩
    cases hv1
    rw [hs1]
    refine kr_icmp_ge (tgt := 39) rd_d_X12_standing_9 rfl (fun h2 => ?_) (fun h2 => ?_)
    · refine kr_iload_n 1 rd_d_X12_standing_39 rfl ?_
      exact kr_ireturn rd_d_X12_standing_40 (ty := .int) rfl rfl ⟨by rw [ax_l_sdM_zero, ax_s_sdM, if_pos h2], rfl⟩
    · exact absurd (Int32.le_iff_toInt_le.mpr (by have := (ax_many6 hb).2; omega)) h2
  | succ f ih =>
    intro j k z ek hj
    refine kr_iload_n 0 rd_d_X12_standing_4 rfl ?_
    refine kr_aload_n 2 rd_d_X12_standing_5 rfl ?_
    refine rd_call G (T2 := tX12_standMany) rfl rd_d_X12_standing_6 rd_k_X12_standing_6 rfl (hS.1 118 (.inl 12) rfl) (as := []) (st := [.int k]) rfl (Nat.le_of_ble_eq_true rfl) rfl (Nat.le_of_ble_eq_true rfl) (d1 := 2) (by decide) (fun _ h => by cases h.1) (ax_many G hS ) ?_
    intro v1 σ1 ⟨hv1, hs1⟩
    cases hv1
    rw [hs1]
    refine kr_icmp_ge (tgt := 39) rd_d_X12_standing_9 rfl (fun h2 => ?_) (fun h2 => ?_)
    · refine kr_iload_n 1 rd_d_X12_standing_39 rfl ?_
      exact kr_ireturn rd_d_X12_standing_40 (ty := .int) rfl rfl ⟨by rw [ax_l_sdM_succ, ax_s_sdM, if_pos h2], rfl⟩
    · refine kr_iload_n 1 rd_d_X12_standing_12 rfl ?_
      refine kr_aload_n 2 rd_d_X12_standing_13 rfl ?_
      refine kr_iload_n 0 rd_d_X12_standing_14 rfl ?_
      refine rd_call G (T2 := tX12_secondsOf) rfl rd_d_X12_standing_15 rd_k_X12_standing_15 rfl (hS.1 118 (.inl 12) rfl) (as := [.int k]) (st := [.int z]) rfl (Nat.le_of_ble_eq_true rfl) rfl (Nat.le_of_ble_eq_true rfl) (d1 := 1) (by decide) (fun _ h => by cases h.1) (ax_secM G hS k (k.toInt.toNat) (by omega) (by omega)) ?_
      intro v3 σ3 ⟨hv3, hs3⟩
      cases hv3
      rw [hs3]
      refine kr_iload_n 3 rd_d_X12_standing_18 rfl ?_
      refine kr_icmp_lt (tgt := 30) rd_d_X12_standing_19 rfl (fun h4 => ?_) (fun h4 => ?_)
      · refine kr_iconst (v := 0) rd_d_X12_standing_30 (by decide) ?_
        refine kr_iadd rd_d_X12_standing_31 ?_
        refine kr_istore_n (lv' := [(2, .int (z + 0)), (3, .int k), (0, .ref 118), (1, .int t)]) rd_d_X12_standing_32 (by decide) rfl ?_
        refine kr_iinc (v := k + 1) (lv' := [(3, .int (k + 1)), (2, .int (z + 0)), (0, .ref 118), (1, .int t)]) 1 rd_d_X12_standing_33 rfl rfl (by decide) rfl ?_
        refine kr_goto (tgt := 4) rd_d_X12_standing_36 rfl ?_
        rw [ax_l_sdM_succ, ax_s_sdM, if_neg h2, if_pos h4]
        exact ih (j + 1) (k + 1) (z + 0) (ax_inc ek (by omega)) (by omega)
      · refine kr_aload_n 2 rd_d_X12_standing_22 rfl ?_
        refine kr_iload_n 0 rd_d_X12_standing_23 rfl ?_
        refine rd_call G (T2 := tX12_weightOf) rfl rd_d_X12_standing_24 rd_k_X12_standing_24 rfl (hS.1 118 (.inl 12) rfl) (as := [.int k]) (st := [.int z]) rfl (Nat.le_of_ble_eq_true rfl) rfl (Nat.le_of_ble_eq_true rfl) (d1 := 1) (by decide) (fun _ h => by cases h.1) (ax_wgtM G hS k (k.toInt.toNat) (by omega) (by omega)) ?_
        intro v5 σ5 ⟨hv5, hs5⟩
        cases hv5
        rw [hs5]
        refine kr_goto (tgt := 31) rd_d_X12_standing_27 rfl ?_
        refine kr_iadd rd_d_X12_standing_31 ?_
        refine kr_istore_n (lv' := [(2, .int (z + (ax_f_wgtM (σ.2.1 120) k (k.toInt.toNat)))), (3, .int k), (0, .ref 118), (1, .int t)]) rd_d_X12_standing_32 (by decide) rfl ?_
        refine kr_iinc (v := k + 1) (lv' := [(3, .int (k + 1)), (2, .int (z + (ax_f_wgtM (σ.2.1 120) k (k.toInt.toNat)))), (0, .ref 118), (1, .int t)]) 1 rd_d_X12_standing_33 rfl rfl (by decide) rfl ?_
        refine kr_goto (tgt := 4) rd_d_X12_standing_36 rfl ?_
        rw [ax_l_sdM_succ, ax_s_sdM, if_neg h2, if_neg h4]
        exact ih (j + 1) (k + 1) (z + (ax_f_wgtM (σ.2.1 120) k (k.toInt.toNat))) (ax_inc ek (by omega)) (by omega)
def ax_f_sd (s : Nat → Int32) (t : Int32) : Int32 := ax_l_sdM (s) t 6 0 0
theorem ax_sd (G : sx_G0 g L xs z9 hd_C ex_mt) {σ : am_S} (hS : ax_S σ) (t : Int32) (hb : pl_B (σ.2.1 120)) : am_K g 3 tX12_standing.1 0 0 0 (lv_args 0 [.ref 118, .int t]) [] σ (ax_R (ax_f_sd (σ.2.1 120) t) σ) := by
  refine kr_iconst (v := 0) rd_d_X12_standing_0 (by decide) ?_
  refine kr_istore_n (lv' := [(2, .int 0), (0, .ref 118), (1, .int t)]) rd_d_X12_standing_1 (by decide) rfl ?_
  refine kr_iconst (v := 0) rd_d_X12_standing_2 (by decide) ?_
  refine kr_istore_n (lv' := [(3, .int 0), (2, .int 0), (0, .ref 118), (1, .int t)]) rd_d_X12_standing_3 (by decide) rfl ?_
  rw [ax_f_sd]
  exact kr_less (by decide) (Nat.le_refl _) (Nat.le_refl _) (ax_lo_sdM G hS t hb.2 6 0 0 0 rfl rfl)
theorem wf_l {m : Nat → Nat → Int32} {s : Nat → Int32} (h : pl_R m 4 s) (b : pl_B s) (t : Int32) : ∀ (f j : Nat) (k z : Int32), k.toInt = (j : Int) → j + f = 6 → ax_l_wfX m t f k z = ax_l_sdM s t f k z := by
  have hN := pl_many h b
  have hn := ax_many6 (s := s) b.2
  have hm : ax_f_many s = m 4 8 := Int32.toInt_inj.mp hN
  have n6 : (nI 6).toInt = 6 := rfl
  have z0 : ∀ x : Int32, x + 0 = x := fun x => Int32.add_zero x
  intro f
  induction f with
  | zero =>
    intro j k z ek hj
    rw [ax_l_wfX_zero, ax_l_sdM_zero, ax_s_wfX, ax_s_sdM, hm, if_pos (Int32.le_iff_toInt_le.mpr (by omega)), if_pos (Int32.le_iff_toInt_le.mpr (by omega))]
  | succ f ih =>
    intro j k z ek hj
    rw [ax_l_wfX_succ, ax_l_sdM_succ, ax_s_wfX, ax_s_sdM, hm]
    by_cases q : m 4 8 ≤ k
    · rw [if_pos q, if_pos q]
    · have q' : ¬ (m 4 8).toInt ≤ k.toInt := fun e => q (Int32.le_iff_toInt_le.mpr e)
      have q6 : ¬ nI 6 ≤ k := fun e => by have := Int32.le_iff_toInt_le.mp e; omega
      obtain ⟨p1, p2⟩ := pl_sec h b (a := k) (j := k.toInt.toNat) (by omega) (by omega)
      rw [ax_f_secX, ax_ent_in (k := k.toInt.toNat) (by decide) (by omega) (by omega)] at p1
      rw [ax_f_wgtX, ax_ent_in (k := k.toInt.toNat) (by decide) (by omega) (by omega)] at p2
      rw [if_neg q, if_neg q, if_neg q6, if_neg q6, p1, p2]
      split
      · rw [z0]; exact ih (j + 1) _ _ (ax_inc ek (by omega)) (by omega)
      · exact ih (j + 1) _ _ (ax_inc ek (by omega)) (by omega)
theorem wf_eq {m : Nat → Nat → Int32} {s : Nat → Int32} (h : pl_R m 4 s) (b : pl_B s) (t : Int32) : ax_f_wf m t = ax_f_sd s t := by
  rw [ax_f_wf, ax_f_sd]
  exact wf_l h b t 6 0 0 0 rfl rfl
def ax_f_shy (m : Nat → Nat → Int32) : Int32 := ax_ent (m 11) 8 3
theorem ax_shy (G : sx_G0 g L xs z9 hd_C ex_mt) {σ : am_S} (hS : ax_S σ) : am_K g 2 tX9_shy.1 0 0 0 (lv_args 0 [.ref 4]) [] σ (ax_R (ax_f_shy σ.2.1) σ) := by
  refine kr_aload_n 0 rd_d_X9_shy_0 rfl ?_
  refine kr_getf G.1 (rd_FL rd_k_X9_shy_1).1 rd_d_X9_shy_1 (hS.1 4 (.inl 9) rfl) (v := .ref 11) (by unfold am_fa; rw [(rd_FL rd_k_X9_shy_1).2]; exact hS.2 4 6 11 rfl) ?_
  refine kr_iconst (v := 3) rd_d_X9_shy_4 (by decide) ?_
  refine rd_callS G (T2 := tX11_entry) rfl rd_d_X9_shy_5 rd_k_X9_shy_5 rfl rfl (as := [.ref 11, .int 3]) (st := []) rfl (Nat.le_of_ble_eq_true rfl) rfl (Nat.le_of_ble_eq_true rfl) (d1 := 1) (by decide) (fun _ h => by cases h.1) (ax_entry G (hS.1 11 (.inr (.int, 8)) rfl) (by decide) 3) ?_
  intro v1 σ1 ⟨hv1, hs1⟩
  cases hv1
  rw [hs1]
  exact kr_ireturn rd_d_X9_shy_8 (ty := .int) rfl rfl ⟨rfl, rfl⟩
def ax_f_hon (m : Nat → Nat → Int32) : Int32 := ax_ent (m 11) 8 2
theorem ax_hon (G : sx_G0 g L xs z9 hd_C ex_mt) {σ : am_S} (hS : ax_S σ) : am_K g 2 tX9_honest.1 0 0 0 (lv_args 0 [.ref 4]) [] σ (ax_R (ax_f_hon σ.2.1) σ) := by
  refine kr_aload_n 0 rd_d_X9_honest_0 rfl ?_
  refine kr_getf G.1 (rd_FL rd_k_X9_honest_1).1 rd_d_X9_honest_1 (hS.1 4 (.inl 9) rfl) (v := .ref 11) (by unfold am_fa; rw [(rd_FL rd_k_X9_honest_1).2]; exact hS.2 4 6 11 rfl) ?_
  refine kr_iconst (v := 2) rd_d_X9_honest_4 (by decide) ?_
  refine rd_callS G (T2 := tX11_entry) rfl rd_d_X9_honest_5 rd_k_X9_honest_5 rfl rfl (as := [.ref 11, .int 2]) (st := []) rfl (Nat.le_of_ble_eq_true rfl) rfl (Nat.le_of_ble_eq_true rfl) (d1 := 1) (by decide) (fun _ h => by cases h.1) (ax_entry G (hS.1 11 (.inr (.int, 8)) rfl) (by decide) 2) ?_
  intro v1 σ1 ⟨hv1, hs1⟩
  cases hv1
  rw [hs1]
  exact kr_ireturn rd_d_X9_honest_8 (ty := .int) rfl rfl ⟨rfl, rfl⟩
def ax_f_gnX (m : Nat → Nat → Int32) (a b t : Int32) : Int32 := if b = 1 then ((ax_f_pri m a) * (12 - (ax_f_shy m))) * (ax_f_wf m (t + 1)) else (ax_f_pri m a) * ((12 * (ax_f_wf m (t + (ax_f_tak m a)))) + ((ax_f_hon m) * ((ax_f_wf m (t + 1)) - (ax_f_wf m (t + (ax_f_tak m a))))))
theorem ax_gnX (G : sx_G0 g L xs z9 hd_C ex_mt) {σ : am_S} (hS : ax_S σ) (a b t : Int32) (hb : pl_Bm σ) : am_K g 3 tX9_gainOf.1 0 0 0 (lv_args 0 [.ref 4, .int a, .int b, .int t]) [] σ (ax_R (ax_f_gnX σ.2.1 a b t) σ) := by
  refine kr_aload_n 0 rd_d_X9_gainOf_0 rfl ?_
  refine kr_iload_n 3 rd_d_X9_gainOf_1 rfl ?_
  refine kr_iconst (v := 1) rd_d_X9_gainOf_2 (by decide) ?_
  refine kr_iadd rd_d_X9_gainOf_3 ?_
  refine rd_call G (T2 := tX9_weightFrom) rfl rd_d_X9_gainOf_4 rd_k_X9_gainOf_4 rfl (hS.1 4 (.inl 9) rfl) (as := [.int (t + 1)]) (st := []) rfl (Nat.le_of_ble_eq_true rfl) rfl (Nat.le_of_ble_eq_true rfl) (d1 := 1) (by decide) (fun _ h => by cases h.1) (ax_wf G hS (t + 1) hb) ?_
  intro v1 σ1 ⟨hv1, hs1⟩
  cases hv1
  rw [hs1]
  refine kr_istore (lv' := [(4, .int (ax_f_wf σ.2.1 (t + 1))), (0, .ref 4), (1, .int a), (2, .int b), (3, .int t)]) rd_d_X9_gainOf_7 (by decide) rfl ?_
  refine kr_iload_n 3 rd_d_X9_gainOf_9 rfl ?_
  refine kr_iconst (v := 1) rd_d_X9_gainOf_10 (by decide) ?_
  refine kr_icmp_ne (tgt := 31) rd_d_X9_gainOf_11 rfl (fun h2 => ?_) (fun h2 => ?_)
  · refine kr_aload_n 1 rd_d_X9_gainOf_31 rfl ?_
    refine kr_iload_n 4 rd_d_X9_gainOf_32 rfl ?_
    refine kr_aload_n 1 rd_d_X9_gainOf_33 rfl ?_
    refine kr_iload_n 2 rd_d_X9_gainOf_34 rfl ?_
    refine rd_call G (T2 := tX9_takesOf) rfl rd_d_X9_gainOf_35 rd_k_X9_gainOf_35 rfl (hS.1 4 (.inl 9) rfl) (as := [.int a]) (st := [.int t, .ref 4]) rfl (Nat.le_of_ble_eq_true rfl) rfl (Nat.le_of_ble_eq_true rfl) (d1 := 2) (by decide) (fun _ h => by cases h.1) (ax_tak G hS a) ?_
    intro v3 σ3 ⟨hv3, hs3⟩
    cases hv3
    rw [hs3]
    refine kr_iadd rd_d_X9_gainOf_38 ?_
    refine rd_call G (T2 := tX9_weightFrom) rfl rd_d_X9_gainOf_39 rd_k_X9_gainOf_39 rfl (hS.1 4 (.inl 9) rfl) (as := [.int (t + (ax_f_tak σ.2.1 a))]) (st := []) rfl (Nat.le_of_ble_eq_true rfl) rfl (Nat.le_of_ble_eq_true rfl) (d1 := 1) (by decide) (fun _ h => by cases h.1) (ax_wf G hS (t + (ax_f_tak σ.2.1 a)) hb) ?_
    intro v4 σ4 ⟨hv4, hs4⟩
    cases hv4
    rw [hs4]
    refine kr_istore (lv' := [(5, .int (ax_f_wf σ.2.1 (t + (ax_f_tak σ.2.1 a)))), (4, .int (ax_f_wf σ.2.1 (t + 1))), (0, .ref 4), (1, .int a), (2, .int b), (3, .int t)]) rd_d_X9_gainOf_42 (by decide) rfl ?_
    refine kr_aload_n 2 rd_d_X9_gainOf_44 rfl ?_
    refine kr_iload_n 3 rd_d_X9_gainOf_45 rfl ?_
    refine rd_call G (T2 := tX9_priceOf) rfl rd_d_X9_gainOf_46 rd_k_X9_gainOf_46 rfl (hS.1 4 (.inl 9) rfl) (as := [.int a]) (st := []) rfl (Nat.le_of_ble_eq_true rfl) rfl (Nat.le_of_ble_eq_true rfl) (d1 := 2) (by decide) (fun _ h => by cases h.1) (ax_pri G hS a) ?_
    intro v5 σ5 ⟨hv5, hs5⟩
    cases hv5
    rw [hs5]
    refine kr_bipush (v := 12) rd_d_X9_gainOf_49 (by decide) ?_
    refine kr_iload 0 rd_d_X9_gainOf_51 rfl ?_
    refine kr_imul rd_d_X9_gainOf_53 ?_
    refine kr_aload_n 2 rd_d_X9_gainOf_54 rfl ?_
    refine rd_call G (T2 := tX9_honest) rfl rd_d_X9_gainOf_55 rd_k_X9_gainOf_55 rfl (hS.1 4 (.inl 9) rfl) (as := []) (st := [.int (12 * (ax_f_wf σ.2.1 (t + (ax_f_tak σ.2.1 a)))), .int (ax_f_pri σ.2.1 a)]) rfl (Nat.le_of_ble_eq_true rfl) rfl (Nat.le_of_ble_eq_true rfl) (d1 := 2) (by decide) (fun _ h => by cases h.1) (ax_hon G hS) ?_
    intro v6 σ6 ⟨hv6, hs6⟩
    cases hv6
    rw [hs6]
    refine kr_iload 1 rd_d_X9_gainOf_58 rfl ?_
    refine kr_iload 0 rd_d_X9_gainOf_60 rfl ?_
    refine kr_isub rd_d_X9_gainOf_62 ?_
    refine kr_imul rd_d_X9_gainOf_63 ?_
    refine kr_iadd rd_d_X9_gainOf_64 ?_
    refine kr_imul rd_d_X9_gainOf_65 ?_
    exact kr_ireturn rd_d_X9_gainOf_66 (ty := .int) rfl rfl ⟨by rw [ax_f_gnX, if_neg h2], rfl⟩
  · refine kr_aload_n 1 rd_d_X9_gainOf_14 rfl ?_
    refine kr_iload_n 2 rd_d_X9_gainOf_15 rfl ?_
    refine rd_call G (T2 := tX9_priceOf) rfl rd_d_X9_gainOf_16 rd_k_X9_gainOf_16 rfl (hS.1 4 (.inl 9) rfl) (as := [.int a]) (st := []) rfl (Nat.le_of_ble_eq_true rfl) rfl (Nat.le_of_ble_eq_true rfl) (d1 := 2) (by decide) (fun _ h => by cases h.1) (ax_pri G hS a) ?_
    intro v7 σ7 ⟨hv7, hs7⟩
    cases hv7
    rw [hs7]
    refine kr_bipush (v := 12) rd_d_X9_gainOf_19 (by decide) ?_
    refine kr_aload_n 1 rd_d_X9_gainOf_21 rfl ?_
    refine rd_call G (T2 := tX9_shy) rfl rd_d_X9_gainOf_22 rd_k_X9_gainOf_22 rfl (hS.1 4 (.inl 9) rfl) (as := []) (st := [.int 12, .int (ax_f_pri σ.2.1 a)]) rfl (Nat.le_of_ble_eq_true rfl) rfl (Nat.le_of_ble_eq_true rfl) (d1 := 2) (by decide) (fun _ h => by cases h.1) (ax_shy G hS) ?_
    intro v8 σ8 ⟨hv8, hs8⟩
    cases hv8
    rw [hs8]
    refine kr_isub rd_d_X9_gainOf_25 ?_
    refine kr_imul rd_d_X9_gainOf_26 ?_
    refine kr_iload 0 rd_d_X9_gainOf_27 rfl ?_
    refine kr_imul rd_d_X9_gainOf_29 ?_
    exact kr_ireturn rd_d_X9_gainOf_30 (ty := .int) rfl rfl ⟨by rw [ax_f_gnX, if_pos h2], rfl⟩
def ax_f_gnM (s : Nat → Int32) (a b t : Int32) : Int32 := if b = 1 then ((s (2 + a.toInt.toNat)) * (12 - (s 57))) * (ax_f_sd (s) (t + 1)) else (s (2 + a.toInt.toNat)) * ((12 * (ax_f_sd (s) (t + (s (12 + a.toInt.toNat))))) + ((s 56) * ((ax_f_sd (s) (t + 1)) - (ax_f_sd (s) (t + (s (12 + a.toInt.toNat)))))))
theorem ax_gnM (G : sx_G0 g L xs z9 hd_C ex_mt) {σ : am_S} (hS : ax_S σ) (a b t : Int32) (hb : pl_B (σ.2.1 120)) (ha : 0 ≤ a.toInt ∧ a.toInt < 10) : am_K g 4 tX12_gainOf.1 0 0 0 (lv_args 0 [.ref 118, .int a, .int b, .int t]) [] σ (ax_R (ax_f_gnM (σ.2.1 120) a b t) σ) := by
  refine kr_aload_n 0 rd_d_X12_gainOf_0 rfl ?_
  refine kr_iload_n 3 rd_d_X12_gainOf_1 rfl ?_
  refine kr_iconst (v := 1) rd_d_X12_gainOf_2 (by decide) ?_
  refine kr_iadd rd_d_X12_gainOf_3 ?_
  refine rd_call G (T2 := tX12_standing) rfl rd_d_X12_gainOf_4 rd_k_X12_gainOf_4 rfl (hS.1 118 (.inl 12) rfl) (as := [.int (t + 1)]) (st := []) rfl (Nat.le_of_ble_eq_true rfl) rfl (Nat.le_of_ble_eq_true rfl) (d1 := 3) (by decide) (fun _ h => by cases h.1) (ax_sd G hS (t + 1) hb) ?_
  intro v1 σ1 ⟨hv1, hs1⟩
  cases hv1
  rw [hs1]
  refine kr_istore (lv' := [(4, .int (ax_f_sd (σ.2.1 120) (t + 1))), (0, .ref 118), (1, .int a), (2, .int b), (3, .int t)]) rd_d_X12_gainOf_7 (by decide) rfl ?_
  refine kr_iload_n 3 rd_d_X12_gainOf_9 rfl ?_
  refine kr_iconst (v := 1) rd_d_X12_gainOf_10 (by decide) ?_
  refine kr_icmp_ne (tgt := 37) rd_d_X12_gainOf_11 rfl (fun h2 => ?_) (fun h2 => ?_)
  · refine kr_aload_n 1 rd_d_X12_gainOf_37 rfl ?_
    refine kr_iload_n 4 rd_d_X12_gainOf_38 rfl ?_
    refine kr_aload_n 1 rd_d_X12_gainOf_39 rfl ?_
    refine kr_getf G.1 (rd_FL rd_k_X12_gainOf_40).1 rd_d_X12_gainOf_40 (hS.1 118 (.inl 12) rfl) (v := .ref 120) (by unfold am_fa; rw [(rd_FL rd_k_X12_gainOf_40).2]; exact hS.2 118 6 120 rfl) ?_
    refine kr_bipush (v := 12) rd_d_X12_gainOf_43 (by decide) ?_
    refine kr_iload_n 2 rd_d_X12_gainOf_45 rfl ?_
    refine kr_iadd rd_d_X12_gainOf_46 ?_
    refine kr_iald G.1 (n := 277) rd_d_X12_gainOf_47 (hS.1 120 (.inr (.int, 277)) rfl) (hd_in (n := 12 + a.toInt.toNat) (ax_ixn (C := 12) (by decide) (by decide) ⟨ha.1, Int.lt_trans ha.2 (by decide)⟩) (by omega)) ?_
    rw [hd_clamp (n := 12 + a.toInt.toNat) (ax_ixn (C := 12) (by decide) (by decide) ⟨ha.1, Int.lt_trans ha.2 (by decide)⟩)]
    refine kr_iadd rd_d_X12_gainOf_48 ?_
    refine rd_call G (T2 := tX12_standing) rfl rd_d_X12_gainOf_49 rd_k_X12_gainOf_49 rfl (hS.1 118 (.inl 12) rfl) (as := [.int (t + (σ.2.1 120 (12 + a.toInt.toNat)))]) (st := []) rfl (Nat.le_of_ble_eq_true rfl) rfl (Nat.le_of_ble_eq_true rfl) (d1 := 3) (by decide) (fun _ h => by cases h.1) (ax_sd G hS (t + (σ.2.1 120 (12 + a.toInt.toNat))) hb) ?_
    intro v3 σ3 ⟨hv3, hs3⟩
    cases hv3
    rw [hs3]
    refine kr_istore (lv' := [(5, .int (ax_f_sd (σ.2.1 120) (t + (σ.2.1 120 (12 + a.toInt.toNat))))), (4, .int (ax_f_sd (σ.2.1 120) (t + 1))), (0, .ref 118), (1, .int a), (2, .int b), (3, .int t)]) rd_d_X12_gainOf_52 (by decide) rfl ?_
    refine kr_aload_n 2 rd_d_X12_gainOf_54 rfl ?_
    refine kr_getf G.1 (rd_FL rd_k_X12_gainOf_55).1 rd_d_X12_gainOf_55 (hS.1 118 (.inl 12) rfl) (v := .ref 120) (by unfold am_fa; rw [(rd_FL rd_k_X12_gainOf_55).2]; exact hS.2 118 6 120 rfl) ?_
    refine kr_iconst (v := 2) rd_d_X12_gainOf_58 (by decide) ?_
    refine kr_iload_n 3 rd_d_X12_gainOf_59 rfl ?_
    refine kr_iadd rd_d_X12_gainOf_60 ?_
    refine kr_iald G.1 (n := 277) rd_d_X12_gainOf_61 (hS.1 120 (.inr (.int, 277)) rfl) (hd_in (n := 2 + a.toInt.toNat) (ax_ixn (C := 2) (by decide) (by decide) ⟨ha.1, Int.lt_trans ha.2 (by decide)⟩) (by omega)) ?_
    rw [hd_clamp (n := 2 + a.toInt.toNat) (ax_ixn (C := 2) (by decide) (by decide) ⟨ha.1, Int.lt_trans ha.2 (by decide)⟩)]
    refine kr_bipush (v := 12) rd_d_X12_gainOf_62 (by decide) ?_
    refine kr_iload 0 rd_d_X12_gainOf_64 rfl ?_
    refine kr_imul rd_d_X12_gainOf_66 ?_
    refine kr_aload_n 2 rd_d_X12_gainOf_67 rfl ?_
    refine kr_getf G.1 (rd_FL rd_k_X12_gainOf_68).1 rd_d_X12_gainOf_68 (hS.1 118 (.inl 12) rfl) (v := .ref 120) (by unfold am_fa; rw [(rd_FL rd_k_X12_gainOf_68).2]; exact hS.2 118 6 120 rfl) ?_
    refine kr_bipush (v := 56) rd_d_X12_gainOf_71 (by decide) ?_
    refine kr_iald G.1 (n := 277) rd_d_X12_gainOf_73 (hS.1 120 (.inr (.int, 277)) rfl) (hd_in (n := 56) (by decide) (by decide)) ?_
    rw [hd_clamp (n := 56) (by decide)]
    refine kr_iload 1 rd_d_X12_gainOf_74 rfl ?_
    refine kr_iload 0 rd_d_X12_gainOf_76 rfl ?_
    refine kr_isub rd_d_X12_gainOf_78 ?_
    refine kr_imul rd_d_X12_gainOf_79 ?_
    refine kr_iadd rd_d_X12_gainOf_80 ?_
    refine kr_imul rd_d_X12_gainOf_81 ?_
    exact kr_ireturn rd_d_X12_gainOf_82 (ty := .int) rfl rfl ⟨by rw [ax_f_gnM, if_neg h2], rfl⟩
  · refine kr_aload_n 1 rd_d_X12_gainOf_14 rfl ?_
    refine kr_getf G.1 (rd_FL rd_k_X12_gainOf_15).1 rd_d_X12_gainOf_15 (hS.1 118 (.inl 12) rfl) (v := .ref 120) (by unfold am_fa; rw [(rd_FL rd_k_X12_gainOf_15).2]; exact hS.2 118 6 120 rfl) ?_
    refine kr_iconst (v := 2) rd_d_X12_gainOf_18 (by decide) ?_
    refine kr_iload_n 2 rd_d_X12_gainOf_19 rfl ?_
    refine kr_iadd rd_d_X12_gainOf_20 ?_
    refine kr_iald G.1 (n := 277) rd_d_X12_gainOf_21 (hS.1 120 (.inr (.int, 277)) rfl) (hd_in (n := 2 + a.toInt.toNat) (ax_ixn (C := 2) (by decide) (by decide) ⟨ha.1, Int.lt_trans ha.2 (by decide)⟩) (by omega)) ?_
    rw [hd_clamp (n := 2 + a.toInt.toNat) (ax_ixn (C := 2) (by decide) (by decide) ⟨ha.1, Int.lt_trans ha.2 (by decide)⟩)]
    refine kr_bipush (v := 12) rd_d_X12_gainOf_22 (by decide) ?_
    refine kr_aload_n 1 rd_d_X12_gainOf_24 rfl ?_
    refine kr_getf G.1 (rd_FL rd_k_X12_gainOf_25).1 rd_d_X12_gainOf_25 (hS.1 118 (.inl 12) rfl) (v := .ref 120) (by unfold am_fa; rw [(rd_FL rd_k_X12_gainOf_25).2]; exact hS.2 118 6 120 rfl) ?_
    refine kr_bipush (v := 57) rd_d_X12_gainOf_28 (by decide) ?_
    refine kr_iald G.1 (n := 277) rd_d_X12_gainOf_30 (hS.1 120 (.inr (.int, 277)) rfl) (hd_in (n := 57) (by decide) (by decide)) ?_
    rw [hd_clamp (n := 57) (by decide)]
    refine kr_isub rd_d_X12_gainOf_31 ?_
    refine kr_imul rd_d_X12_gainOf_32 ?_
    refine kr_iload 0 rd_d_X12_gainOf_33 rfl ?_
    refine kr_imul rd_d_X12_gainOf_35 ?_
    exact kr_ireturn rd_d_X12_gainOf_36 (ty := .int) rfl rfl ⟨by rw [ax_f_gnM, if_pos h2], rfl⟩
theorem gn_eq {m : Nat → Nat → Int32} {s : Nat → Int32} (h : pl_R m 4 s) (b : pl_B s) {a : Int32} (ha : ¬ ax_f_win s a = 0) (c t : Int32) : ax_f_gnX m a c t = ax_f_gnM s a c t := by
  have e0 : ax_f_pri m a = s (2 + a.toInt.toNat) := ax_rowE h b ha (r := 0) (by decide)
  have e1 : ax_f_tak m a = s (12 + a.toInt.toNat) := ax_rowE h b ha (r := 1) (by decide)
  have e2 : ax_f_shy m = s 57 := ax_setE h (a := 3) (j := 3) rfl (by decide)
  have e3 : ax_f_hon m = s 56 := ax_setE h (a := 2) (j := 2) rfl (by decide)
  rw [ax_f_gnX, ax_f_gnM, e0, e1, e2, e3, wf_eq h b, wf_eq h b]
def ax_f_bwX (m : Nat → Nat → Int32) (a t : Int32) : Int32 := if (ax_f_gnX m a 1 t) ≤ (ax_f_gnX m a 0 t) then 0 else 1
theorem ax_bwX (G : sx_G0 g L xs z9 hd_C ex_mt) {σ : am_S} (hS : ax_S σ) (a t : Int32) (hb : pl_Bm σ) : am_K g 4 tX9_betterWay.1 0 0 0 (lv_args 0 [.ref 4, .int a, .int t]) [] σ (ax_R (ax_f_bwX σ.2.1 a t) σ) := by
  refine kr_aload_n 0 rd_d_X9_betterWay_0 rfl ?_
  refine kr_iload_n 1 rd_d_X9_betterWay_1 rfl ?_
  refine kr_iconst (v := 1) rd_d_X9_betterWay_2 (by decide) ?_
  refine kr_iload_n 2 rd_d_X9_betterWay_3 rfl ?_
  refine rd_call G (T2 := tX9_gainOf) rfl rd_d_X9_betterWay_4 rd_k_X9_betterWay_4 rfl (hS.1 4 (.inl 9) rfl) (as := [.int a, .int 1, .int t]) (st := []) rfl (Nat.le_of_ble_eq_true rfl) rfl (Nat.le_of_ble_eq_true rfl) (d1 := 3) (by decide) (fun _ h => by cases h.1) (ax_gnX G hS a 1 t hb) ?_
  intro v1 σ1 ⟨hv1, hs1⟩
  cases hv1
  rw [hs1]
  refine kr_aload_n 0 rd_d_X9_betterWay_7 rfl ?_
  refine kr_iload_n 1 rd_d_X9_betterWay_8 rfl ?_
  refine kr_iconst (v := 0) rd_d_X9_betterWay_9 (by decide) ?_
  refine kr_iload_n 2 rd_d_X9_betterWay_10 rfl ?_
  refine rd_call G (T2 := tX9_gainOf) rfl rd_d_X9_betterWay_11 rd_k_X9_betterWay_11 rfl (hS.1 4 (.inl 9) rfl) (as := [.int a, .int 0, .int t]) (st := [.int (ax_f_gnX σ.2.1 a 1 t)]) rfl (Nat.le_of_ble_eq_true rfl) rfl (Nat.le_of_ble_eq_true rfl) (d1 := 3) (by decide) (fun _ h => by cases h.1) (ax_gnX G hS a 0 t hb) ?_
  intro v2 σ2 ⟨hv2, hs2⟩
  cases hv2
  rw [hs2]
  refine kr_icmp_le (tgt := 21) rd_d_X9_betterWay_14 rfl (fun h3 => ?_) (fun h3 => ?_)
  · refine kr_iconst (v := 0) rd_d_X9_betterWay_21 (by decide) ?_
    exact kr_ireturn rd_d_X9_betterWay_22 (ty := .int) rfl rfl ⟨by rw [ax_f_bwX, if_pos h3], rfl⟩
  · refine kr_iconst (v := 1) rd_d_X9_betterWay_17 (by decide) ?_
    refine kr_goto (tgt := 22) rd_d_X9_betterWay_18 rfl ?_
    exact kr_ireturn rd_d_X9_betterWay_22 (ty := .int) rfl rfl ⟨by rw [ax_f_bwX, if_neg h3], rfl⟩
def ax_f_bwM (s : Nat → Int32) (a t : Int32) : Int32 := if (ax_f_gnM (s) a 1 t) ≤ (ax_f_gnM (s) a 0 t) then 0 else 1
theorem ax_bwM (G : sx_G0 g L xs z9 hd_C ex_mt) {σ : am_S} (hS : ax_S σ) (a t : Int32) (hb : pl_B (σ.2.1 120)) (ha : 0 ≤ a.toInt ∧ a.toInt < 10) : am_K g 5 tX12_betterOf.1 0 0 0 (lv_args 0 [.ref 118, .int a, .int t]) [] σ (ax_R (ax_f_bwM (σ.2.1 120) a t) σ) := by
  refine kr_aload_n 0 rd_d_X12_betterOf_0 rfl ?_
  refine kr_iload_n 1 rd_d_X12_betterOf_1 rfl ?_
  refine kr_iconst (v := 1) rd_d_X12_betterOf_2 (by decide) ?_
  refine kr_iload_n 2 rd_d_X12_betterOf_3 rfl ?_
  refine rd_call G (T2 := tX12_gainOf) rfl rd_d_X12_betterOf_4 rd_k_X12_betterOf_4 rfl (hS.1 118 (.inl 12) rfl) (as := [.int a, .int 1, .int t]) (st := []) rfl (Nat.le_of_ble_eq_true rfl) rfl (Nat.le_of_ble_eq_true rfl) (d1 := 4) (by decide) (fun _ h => by cases h.1) (ax_gnM G hS a 1 t hb ha) ?_
  intro v1 σ1 ⟨hv1, hs1⟩
  cases hv1
  rw [hs1]
  refine kr_aload_n 0 rd_d_X12_betterOf_7 rfl ?_
  refine kr_iload_n 1 rd_d_X12_betterOf_8 rfl ?_
  refine kr_iconst (v := 0) rd_d_X12_betterOf_9 (by decide) ?_
  refine kr_iload_n 2 rd_d_X12_betterOf_10 rfl ?_
  refine rd_call G (T2 := tX12_gainOf) rfl rd_d_X12_betterOf_11 rd_k_X12_betterOf_11 rfl (hS.1 118 (.inl 12) rfl) (as := [.int a, .int 0, .int t]) (st := [.int (ax_f_gnM (σ.2.1 120) a 1 t)]) rfl (Nat.le_of_ble_eq_true rfl) rfl (Nat.le_of_ble_eq_true rfl) (d1 := 4) (by decide) (fun _ h => by cases h.1) (ax_gnM G hS a 0 t hb ha) ?_
  intro v2 σ2 ⟨hv2, hs2⟩
  cases hv2
  rw [hs2]
  refine kr_icmp_le (tgt := 21) rd_d_X12_betterOf_14 rfl (fun h3 => ?_) (fun h3 => ?_)
  · refine kr_iconst (v := 0) rd_d_X12_betterOf_21 (by decide) ?_
    exact kr_ireturn rd_d_X12_betterOf_22 (ty := .int) rfl rfl ⟨by rw [ax_f_bwM, if_pos h3], rfl⟩
  · refine kr_iconst (v := 1) rd_d_X12_betterOf_17 (by decide) ?_
    refine kr_goto (tgt := 22) rd_d_X12_betterOf_18 rfl ?_
    exact kr_ireturn rd_d_X12_betterOf_22 (ty := .int) rfl rfl ⟨by rw [ax_f_bwM, if_neg h3], rfl⟩
theorem bw_eq {m : Nat → Nat → Int32} {s : Nat → Int32} (h : pl_R m 4 s) (b : pl_B s) {a : Int32} (ha : ¬ ax_f_win s a = 0) (t : Int32) : ax_f_bwX m a t = ax_f_bwM s a t := by
  rw [ax_f_bwX, ax_f_bwM, gn_eq h b ha, gn_eq h b ha]
/-- what the numbers of the STATION keep to -/
def pl_B2 (s : Nat → Int32) : Prop := (∀ k, k < 10 → 0 ≤ (s (2 + k)).toInt ∧ (s (2 + k)).toInt ≤ 99) ∧ (0 ≤ (s 56).toInt ∧ (s 56).toInt ≤ 12) ∧ (0 ≤ (s 57).toInt ∧ (s 57).toInt ≤ 12) ∧ (0 ≤ (s 60).toInt ∧ (s 60).toInt ≤ 12) ∧ ∀ k, k < 6 → 0 ≤ (s (48 + k)).toInt ∧ (s (48 + k)).toInt ≤ 9
theorem pl_z2 : (∀ k, k < 10 → sx_atl (z9.1 120) (2 + k) = some (.ofNat 0, .ofNat 99, 409)) ∧ ∀ k, k < 6 → sx_atl (z9.1 120) (48 + k) = some (.ofNat 0, .ofNat 9, 414) := by decide +kernel
theorem pl_B2M {σe σ : am_S} {m : Nat} (hM : sx_M z9 hd_C σe m 0 σ) : pl_B2 (σ.2.1 120) := ⟨fun k hk => hM.2.2.1 120 (2 + k) _ _ _ (pl_z2.1 k hk), hM.2.2.1 120 56 _ _ _ rfl, hM.2.2.1 120 57 _ _ _ rfl, hM.2.2.1 120 60 _ _ _ rfl, fun k hk => hM.2.2.1 120 (48 + k) _ _ _ (pl_z2.2 k hk)⟩
theorem sd_b {s : Nat → Int32} (b : pl_B s) (b2 : pl_B2 s) (t : Int32) : ∀ (f j : Nat) (k z : Int32), k.toInt = (j : Int) → j + f = 6 → 0 ≤ z.toInt ∧ z.toInt ≤ 9 * (j : Int) → 0 ≤ (ax_l_sdM s t f k z).toInt ∧ (ax_l_sdM s t f k z).toInt ≤ 54 := by
  have hn := ax_many6 (s := s) b.2
  have z0 : ∀ x : Int32, x + 0 = x := fun x => Int32.add_zero x
  intro f
  induction f with
  | zero =>
    intro j k z ek hj hz
    rw [ax_l_sdM_zero, ax_s_sdM, if_pos (Int32.le_iff_toInt_le.mpr (by omega))]
    omega
  | succ f ih =>
    intro j k z ek hj hz
    rw [ax_l_sdM_succ, ax_s_sdM]
    split
    · omega
    · split
      · rw [z0]
        exact ih (j + 1) _ _ (ax_inc ek (by omega)) (by omega) (by omega)
      · have w : 0 ≤ (ax_f_wgtM s k k.toInt.toNat).toInt ∧ (ax_f_wgtM s k k.toInt.toNat).toInt ≤ 9 := by
          rw [ax_f_wgtM]
          split
          · decide
          · exact b2.2.2.2.2 k.toInt.toNat (by omega)
        have e := sx_addI z (ax_f_wgtM s k k.toInt.toNat) (by show (-2147483648 : Int) ≤ _; omega) (by show _ ≤ (2147483647 : Int); omega)
        exact ih (j + 1) _ _ (ax_inc ek (by omega)) (by omega) (by omega)
theorem sd_b6 {s : Nat → Int32} (b : pl_B s) (b2 : pl_B2 s) (t : Int32) : 0 ≤ (ax_f_sd s t).toInt ∧ (ax_f_sd s t).toInt ≤ 54 := by
  rw [ax_f_sd]
  exact sd_b b b2 t 6 0 0 0 rfl rfl (by decide)
theorem gn_b {s : Nat → Int32} (b : pl_B s) (b2 : pl_B2 s) {a : Int32} (ha : 0 ≤ a.toInt ∧ a.toInt < 10) (c t : Int32) : 0 ≤ (ax_f_gnM s a c t).toInt ∧ (ax_f_gnM s a c t).toInt ≤ 128304 := by
  have p := b2.1 a.toInt.toNat (by omega)
  have hh := b2.2.1
  have hs := b2.2.2.1
  have a1 := sd_b6 b b2 (t + 1)
  have a2 := sd_b6 b b2 (t + s (12 + a.toInt.toNat))
  have t12 : (12 : Int32).toInt = 12 := rfl
  rw [ax_f_gnM]
  generalize ax_f_sd s (t + 1) = u at *
  generalize ax_f_sd s (t + s (12 + a.toInt.toNat)) = v at *
  generalize s (2 + a.toInt.toNat) = q at *
  generalize s 56 = h at *
  generalize s 57 = y at *
  split
  · have e1 := sx_subI 12 y (by show (-2147483648 : Int) ≤ _; omega) (by show _ ≤ (2147483647 : Int); omega)
    have m1 : 0 ≤ q.toInt * (12 - y).toInt ∧ q.toInt * (12 - y).toInt ≤ 99 * 12 := ⟨Int.mul_nonneg p.1 (by omega), Int.mul_le_mul p.2 (by omega) (by omega) (by decide)⟩
    have e2 := sx_mulI q (12 - y) (by show (-2147483648 : Int) ≤ _; omega) (by show _ ≤ (2147483647 : Int); omega)
    have m2 : 0 ≤ (q * (12 - y)).toInt * u.toInt ∧ (q * (12 - y)).toInt * u.toInt ≤ 1188 * 54 := ⟨Int.mul_nonneg (by omega) a1.1, Int.mul_le_mul (by omega) a1.2 a1.1 (by decide)⟩
    have e3 := sx_mulI (q * (12 - y)) u (by show (-2147483648 : Int) ≤ _; omega) (by show _ ≤ (2147483647 : Int); omega)
    omega
  · have e1 := sx_mulI 12 v (by rw [t12]; show (-2147483648 : Int) ≤ _; omega) (by rw [t12]; show _ ≤ (2147483647 : Int); omega)
    rw [t12] at e1
    have e2 := sx_subI u v (by show (-2147483648 : Int) ≤ _; omega) (by show _ ≤ (2147483647 : Int); omega)
    have n1 : 0 ≤ h.toInt * u.toInt ∧ h.toInt * u.toInt ≤ 12 * u.toInt := ⟨Int.mul_nonneg hh.1 a1.1, Int.mul_le_mul_of_nonneg_right hh.2 a1.1⟩
    have n2 : 0 ≤ h.toInt * v.toInt ∧ h.toInt * v.toInt ≤ 12 * v.toInt := ⟨Int.mul_nonneg hh.1 a2.1, Int.mul_le_mul_of_nonneg_right hh.2 a2.1⟩
    have d1 : h.toInt * (u - v).toInt = h.toInt * u.toInt - h.toInt * v.toInt := by rw [e2, Int.mul_sub]
    have e3 := sx_mulI h (u - v) (by show (-2147483648 : Int) ≤ _; omega) (by show _ ≤ (2147483647 : Int); omega)
    have e4 := sx_addI (12 * v) (h * (u - v)) (by show (-2147483648 : Int) ≤ _; omega) (by show _ ≤ (2147483647 : Int); omega)
    have r1 : 0 ≤ (12 * v + h * (u - v)).toInt ∧ (12 * v + h * (u - v)).toInt ≤ 1296 := by omega
    have m2 : 0 ≤ q.toInt * (12 * v + h * (u - v)).toInt ∧ q.toInt * (12 * v + h * (u - v)).toInt ≤ 99 * 1296 := ⟨Int.mul_nonneg p.1 r1.1, Int.mul_le_mul p.2 r1.2 r1.1 (by decide)⟩
    have e5 := sx_mulI q (12 * v + h * (u - v)) (by show (-2147483648 : Int) ≤ _; omega) (by show _ ≤ (2147483647 : Int); omega)
    omega
def ax_f_bgX (m : Nat → Nat → Int32) (a t : Int32) : Int32 := ax_f_max (ax_f_gnX m a 0 t) (ax_f_gnX m a 1 t)
theorem ax_bgX (G : sx_G0 g L xs z9 hd_C ex_mt) {σ : am_S} (hS : ax_S σ) (a t : Int32) (hb : pl_Bm σ) : am_K g 4 tX9_betterGain.1 0 0 0 (lv_args 0 [.ref 4, .int a, .int t]) [] σ (ax_R (ax_f_bgX σ.2.1 a t) σ) := by
  refine kr_aload_n 0 rd_d_X9_betterGain_0 rfl ?_
  refine kr_iload_n 1 rd_d_X9_betterGain_1 rfl ?_
  refine kr_iconst (v := 0) rd_d_X9_betterGain_2 (by decide) ?_
  refine kr_iload_n 2 rd_d_X9_betterGain_3 rfl ?_
  refine rd_call G (T2 := tX9_gainOf) rfl rd_d_X9_betterGain_4 rd_k_X9_betterGain_4 rfl (hS.1 4 (.inl 9) rfl) (as := [.int a, .int 0, .int t]) (st := []) rfl (Nat.le_of_ble_eq_true rfl) rfl (Nat.le_of_ble_eq_true rfl) (d1 := 3) (by decide) (fun _ h => by cases h.1) (ax_gnX G hS a 0 t hb) ?_
  intro v1 σ1 ⟨hv1, hs1⟩
  cases hv1
  rw [hs1]
  refine kr_aload_n 0 rd_d_X9_betterGain_7 rfl ?_
  refine kr_iload_n 1 rd_d_X9_betterGain_8 rfl ?_
  refine kr_iconst (v := 1) rd_d_X9_betterGain_9 (by decide) ?_
  refine kr_iload_n 2 rd_d_X9_betterGain_10 rfl ?_
  refine rd_call G (T2 := tX9_gainOf) rfl rd_d_X9_betterGain_11 rd_k_X9_betterGain_11 rfl (hS.1 4 (.inl 9) rfl) (as := [.int a, .int 1, .int t]) (st := [.int (ax_f_gnX σ.2.1 a 0 t)]) rfl (Nat.le_of_ble_eq_true rfl) rfl (Nat.le_of_ble_eq_true rfl) (d1 := 3) (by decide) (fun _ h => by cases h.1) (ax_gnX G hS a 1 t hb) ?_
  intro v2 σ2 ⟨hv2, hs2⟩
  cases hv2
  rw [hs2]
  refine kr_mmax G.1 (ex_mem_ok (show ex_mem 262271 (Cond.methodLink tX9_betterGain.1.1.cls 128 Lib.Math.max.name) = true from rd_k_X9_betterGain_14)) rd_d_X9_betterGain_14 (by decide) (Nat.le_of_ble_eq_true rfl) ?_
  show am_K g 4 tX9_betterGain.1 0 0 17 [(0, .ref 4), (1, .int a), (2, .int t)] [.int (ax_f_max (ax_f_gnX σ.2.1 a 0 t) (ax_f_gnX σ.2.1 a 1 t))] σ _
  exact kr_ireturn rd_d_X9_betterGain_17 (ty := .int) rfl rfl ⟨rfl, rfl⟩
def ax_f_bgM (s : Nat → Int32) (a t : Int32) : Int32 := ax_f_gr (ax_f_gnM (s) a 0 t) (ax_f_gnM (s) a 1 t)
theorem ax_bgM (G : sx_G0 g L xs z9 hd_C ex_mt) {σ : am_S} (hS : ax_S σ) (a t : Int32) (hb : pl_B (σ.2.1 120)) (ha : 0 ≤ a.toInt ∧ a.toInt < 10) : am_K g 5 tX12_mostAt.1 0 0 0 (lv_args 0 [.ref 118, .int a, .int t]) [] σ (ax_R (ax_f_bgM (σ.2.1 120) a t) σ) := by
  refine kr_aload_n 0 rd_d_X12_mostAt_0 rfl ?_
  refine kr_iload_n 1 rd_d_X12_mostAt_1 rfl ?_
  refine kr_iconst (v := 0) rd_d_X12_mostAt_2 (by decide) ?_
  refine kr_iload_n 2 rd_d_X12_mostAt_3 rfl ?_
  refine rd_call G (T2 := tX12_gainOf) rfl rd_d_X12_mostAt_4 rd_k_X12_mostAt_4 rfl (hS.1 118 (.inl 12) rfl) (as := [.int a, .int 0, .int t]) (st := []) rfl (Nat.le_of_ble_eq_true rfl) rfl (Nat.le_of_ble_eq_true rfl) (d1 := 4) (by decide) (fun _ h => by cases h.1) (ax_gnM G hS a 0 t hb ha) ?_
  intro v1 σ1 ⟨hv1, hs1⟩
  cases hv1
  rw [hs1]
  refine kr_aload_n 0 rd_d_X12_mostAt_7 rfl ?_
  refine kr_iload_n 1 rd_d_X12_mostAt_8 rfl ?_
  refine kr_iconst (v := 1) rd_d_X12_mostAt_9 (by decide) ?_
  refine kr_iload_n 2 rd_d_X12_mostAt_10 rfl ?_
  refine rd_call G (T2 := tX12_gainOf) rfl rd_d_X12_mostAt_11 rd_k_X12_mostAt_11 rfl (hS.1 118 (.inl 12) rfl) (as := [.int a, .int 1, .int t]) (st := [.int (ax_f_gnM (σ.2.1 120) a 0 t)]) rfl (Nat.le_of_ble_eq_true rfl) rfl (Nat.le_of_ble_eq_true rfl) (d1 := 4) (by decide) (fun _ h => by cases h.1) (ax_gnM G hS a 1 t hb ha) ?_
  intro v2 σ2 ⟨hv2, hs2⟩
  cases hv2
  rw [hs2]
  refine rd_callS G (T2 := tX12_greater) rfl rd_d_X12_mostAt_14 rd_k_X12_mostAt_14 rfl rfl (as := [.int (ax_f_gnM (σ.2.1 120) a 0 t), .int (ax_f_gnM (σ.2.1 120) a 1 t)]) (st := []) rfl (Nat.le_of_ble_eq_true rfl) rfl (Nat.le_of_ble_eq_true rfl) (d1 := 1) (by decide) (fun _ h => by cases h.1) (ax_gr G hS (ax_f_gnM (σ.2.1 120) a 0 t) (ax_f_gnM (σ.2.1 120) a 1 t)) ?_
  intro v3 σ3 ⟨hv3, hs3⟩
  cases hv3
  rw [hs3]
  exact kr_ireturn rd_d_X12_mostAt_17 (ty := .int) rfl rfl ⟨rfl, rfl⟩
theorem bg_eq {m : Nat → Nat → Int32} {s : Nat → Int32} (h : pl_R m 4 s) (b : pl_B s) {a : Int32} (ha : ¬ ax_f_win s a = 0) (t : Int32) : ax_f_bgX m a t = ax_f_bgM s a t := by
  rw [ax_f_bgX, ax_f_bgM, gn_eq h b ha, gn_eq h b ha, ax_f_max, ax_f_gr]
  by_cases q : ax_f_gnM s a 0 t < ax_f_gnM s a 1 t
  · rw [if_pos q, if_pos (Int32.le_iff_toInt_le.mpr (by have := Int32.lt_iff_toInt_lt.mp q; omega))]
  · rw [if_neg q]
    by_cases q2 : ax_f_gnM s a 0 t ≤ ax_f_gnM s a 1 t
    · rw [if_pos q2]
      apply Int32.toInt_inj.mp
      have q3 : ¬ (ax_f_gnM s a 0 t).toInt < (ax_f_gnM s a 1 t).toInt := fun e => q (Int32.lt_iff_toInt_lt.mpr e)
      have := Int32.le_iff_toInt_le.mp q2
      omega
    · rw [if_neg q2]
theorem bg_b {s : Nat → Int32} (b : pl_B s) (b2 : pl_B2 s) {a : Int32} (ha : 0 ≤ a.toInt ∧ a.toInt < 10) (t : Int32) : 0 ≤ (ax_f_bgM s a t).toInt := by
  have g0 := gn_b b b2 ha 0 t
  have g1 := gn_b b b2 ha 1 t
  rw [ax_f_bgM, ax_f_gr]
  split
  · exact g1.1
  · exact g0.1
theorem ax_winV {s : Nat → Int32} (b : pl_B s) {a : Int32} (h : 0 ≤ a.toInt ∧ a.toInt < (s 0).toInt) : ¬ ax_f_win s a = 0 := by
  obtain ⟨⟨b1, b2⟩, -⟩ := b
  exact ax_isIn_v ⟨by omega, b2⟩ h
def ax_s_idI (m : Nat → Nat → Int32) (t : Int32) (e : Int32) (rec : Int32 → Int32) (k : Int32) : Int32 := if (m 4 7) ≤ k then e else if (ax_f_bgX m k t) ≤ 0 then rec (k + 1) else t + 1
def ax_l_idI (m : Nat → Nat → Int32) (t : Int32) (e : Int32) : Nat → Int32 → Int32
  | 0, k => ax_s_idI m t e (fun _ => 0) k
  | f + 1, k => ax_s_idI m t e (ax_l_idI m t e f) k
theorem ax_l_idI_zero (m : Nat → Nat → Int32) (t : Int32) (e : Int32) (k : Int32) : ax_l_idI m t e 0 k = ax_s_idI m t e (fun _ => 0) k := rfl
theorem ax_l_idI_succ (m : Nat → Nat → Int32) (t : Int32) (e : Int32) (f : Nat) (k : Int32) : ax_l_idI m t e (f + 1) k = ax_s_idI m t e (ax_l_idI m t e f) k := rfl
theorem ax_lo_idI (G : sx_G0 g L xs z9 hd_C ex_mt) {σ : am_S} (hS : ax_S σ) (t : Int32) (e : Int32) (hb : pl_Bm σ) (kk : ∀ w2 : Int32, am_K g 7 tX11_idle.1 0 0 42 [(2, .int w2), (1, .int t), (0, .ref 0)] [] σ (ax_R e σ)) : ∀ (f j : Nat) (k : Int32), k.toInt = (j : Int) → j + f = 10 → am_K g 7 tX11_idle.1 0 0 9 [(2, .int k), (1, .int t), (0, .ref 0)] [] σ (ax_R (ax_l_idI σ.2.1 t e f k) σ) := by
  intro f
  induction f with
  | zero =>
    intro j k ek hj
    obtain ⟨⟨hb0, hb1⟩, hb2⟩ := id hb
    refine kr_iload_n 0 rd_d_X11_idle_9 rfl ?_
    refine kr_aload_n 2 rd_d_X11_idle_10 rfl ?_
    refine kr_getf G.1 (rd_FL rd_k_X11_idle_11).1 rd_d_X11_idle_11 (hS.1 0 (.inl 11) rfl) (v := .ref 4) (by unfold am_fa; rw [(rd_FL rd_k_X11_idle_11).2]; exact hS.2 0 2 4 rfl) ?_
    refine kr_getf G.1 (rd_FL rd_k_X11_idle_14).1 rd_d_X11_idle_14 (hS.1 4 (.inl 9) rfl) (v := .int (σ.2.1 4 7)) (by unfold am_fa; rw [(rd_FL rd_k_X11_idle_14).2]; rfl) ?_
    refine kr_icmp_ge (tgt := 42) rd_d_X11_idle_17 rfl (fun h1 => ?_) (fun h1 => ?_)
    · rw [ax_l_idI_zero, ax_s_idI, if_pos h1]
      exact kk _
    · exact absurd (Int32.le_iff_toInt_le.mpr (by omega)) h1
  | succ f ih =>
    intro j k ek hj
    obtain ⟨⟨hb0, hb1⟩, hb2⟩ := id hb
    refine kr_iload_n 0 rd_d_X11_idle_9 rfl ?_
    refine kr_aload_n 2 rd_d_X11_idle_10 rfl ?_
    refine kr_getf G.1 (rd_FL rd_k_X11_idle_11).1 rd_d_X11_idle_11 (hS.1 0 (.inl 11) rfl) (v := .ref 4) (by unfold am_fa; rw [(rd_FL rd_k_X11_idle_11).2]; exact hS.2 0 2 4 rfl) ?_
    refine kr_getf G.1 (rd_FL rd_k_X11_idle_14).1 rd_d_X11_idle_14 (hS.1 4 (.inl 9) rfl) (v := .int (σ.2.1 4 7)) (by unfold am_fa; rw [(rd_FL rd_k_X11_idle_14).2]; rfl) ?_
    refine kr_icmp_ge (tgt := 42) rd_d_X11_idle_17 rfl (fun h1 => ?_) (fun h1 => ?_)
    · rw [ax_l_idI_succ, ax_s_idI, if_pos h1]
      exact kk _
    · refine kr_aload_n 2 rd_d_X11_idle_20 rfl ?_
      refine kr_getf G.1 (rd_FL rd_k_X11_idle_21).1 rd_d_X11_idle_21 (hS.1 0 (.inl 11) rfl) (v := .ref 4) (by unfold am_fa; rw [(rd_FL rd_k_X11_idle_21).2]; exact hS.2 0 2 4 rfl) ?_
      refine kr_iload_n 0 rd_d_X11_idle_24 rfl ?_
      refine kr_iload_n 1 rd_d_X11_idle_25 rfl ?_
      refine rd_call G (T2 := tX9_betterGain) rfl rd_d_X11_idle_26 rd_k_X11_idle_26 rfl (hS.1 4 (.inl 9) rfl) (as := [.int k, .int t]) (st := []) rfl (Nat.le_of_ble_eq_true rfl) rfl (Nat.le_of_ble_eq_true rfl) (d1 := 4) (by decide) (fun _ h => by cases h.1) (ax_bgX G hS k t hb) ?_
      intro v2 σ2 ⟨hv2, hs2⟩
      cases hv2
      rw [hs2]
      refine kr_if_le (tgt := 36) rd_d_X11_idle_29 rfl (fun h3 => ?_) (fun h3 => ?_)
      · refine kr_iinc (v := k + 1) (lv' := [(2, .int (k + 1)), (1, .int t), (0, .ref 0)]) 0 rd_d_X11_idle_36 rfl rfl (by decide) rfl ?_
        refine kr_goto (tgt := 9) rd_d_X11_idle_39 rfl ?_
        rw [ax_l_idI_succ, ax_s_idI, if_neg h1, if_pos h3]
        exact ih (j + 1) (k + 1) (ax_inc ek (by omega)) (by omega)
      · refine kr_iload_n 1 rd_d_X11_idle_32 rfl ?_
        refine kr_iconst (v := 1) rd_d_X11_idle_33 (by decide) ?_
        refine kr_iadd rd_d_X11_idle_34 ?_
        exact kr_ireturn rd_d_X11_idle_35 (ty := .int) rfl rfl ⟨by rw [ax_l_idI_succ, ax_s_idI, if_neg h1, if_neg h3], rfl⟩
def ax_s_idO (m : Nat → Nat → Int32) (rec : Int32 → Int32) (t : Int32) : Int32 := if t < 0 then 0 else ax_l_idI m t (rec (t + (-1))) 10 0
def ax_l_idO (m : Nat → Nat → Int32) : Nat → Int32 → Int32
  | 0, t => ax_s_idO m (fun _ => 0) t
  | f + 1, t => ax_s_idO m (ax_l_idO m f) t
theorem ax_l_idO_zero (m : Nat → Nat → Int32) (t : Int32) : ax_l_idO m 0 t = ax_s_idO m (fun _ => 0) t := rfl
theorem ax_l_idO_succ (m : Nat → Nat → Int32) (f : Nat) (t : Int32) : ax_l_idO m (f + 1) t = ax_s_idO m (ax_l_idO m f) t := rfl
theorem ax_lo_idO (G : sx_G0 g L xs z9 hd_C ex_mt) {σ : am_S} (hS : ax_S σ) (hb : pl_Bm σ) : ∀ (f : Nat) (t : Int32), t.toInt = (f : Int) - 1 → am_K g 7 tX11_idle.1 0 0 3 [(1, .int t), (0, .ref 0)] [] σ (ax_R (ax_l_idO σ.2.1 f t) σ) := by
  intro f
  induction f with
  | zero =>
    intro t ek
    refine kr_iload_n 0 rd_d_X11_idle_3 rfl ?_
    refine kr_if_lt (tgt := 48) rd_d_X11_idle_4 rfl (fun h1 => ?_) (fun h1 => ?_)
    · refine kr_iconst (v := 0) rd_d_X11_idle_48 (by decide) ?_
      exact kr_ireturn rd_d_X11_idle_49 (ty := .int) rfl rfl ⟨by rw [ax_l_idO_zero, ax_s_idO, if_pos h1], rfl⟩
    · exact absurd (Int32.lt_iff_toInt_lt.mpr (by show _ < (0 : Int); omega)) h1
  | succ f ih =>
    intro t ek
    refine kr_iload_n 0 rd_d_X11_idle_3 rfl ?_
    refine kr_if_lt (tgt := 48) rd_d_X11_idle_4 rfl (fun h1 => ?_) (fun h1 => ?_)
    · refine kr_iconst (v := 0) rd_d_X11_idle_48 (by decide) ?_
      exact kr_ireturn rd_d_X11_idle_49 (ty := .int) rfl rfl ⟨by rw [ax_l_idO_succ, ax_s_idO, if_pos h1], rfl⟩
    · refine kr_iconst (v := 0) rd_d_X11_idle_7 (by decide) ?_
      refine kr_istore_n (lv' := [(2, .int 0), (1, .int t), (0, .ref 0)]) rd_d_X11_idle_8 (by decide) rfl ?_
      rw [ax_l_idO_succ, ax_s_idO, if_neg h1]
      refine ax_lo_idI G hS t (ax_l_idO σ.2.1 f (t + (-1))) hb (fun w2 => ?_) 10 0 0 rfl rfl
      refine kr_iinc (v := t + (-1)) (lv' := [(1, .int (t + (-1))), (2, .int w2), (0, .ref 0)]) 1 rd_d_X11_idle_42 rfl rfl (by decide) rfl ?_
      refine kr_goto (tgt := 3) rd_d_X11_idle_45 rfl ?_
      refine kr_sub (lv' := [(1, .int (t + (-1))), (0, .ref 0)]) (by simp) ?_
      exact ih (t + (-1)) (ax_dec ek)
def ax_f_idX (m : Nat → Nat → Int32) : Int32 := ax_l_idO m 60 59
theorem ax_idX (G : sx_G0 g L xs z9 hd_C ex_mt) {σ : am_S} (hS : ax_S σ) (hb : pl_Bm σ) : am_K g 7 tX11_idle.1 0 0 0 (lv_args 0 [.ref 0]) [] σ (ax_R (ax_f_idX σ.2.1) σ) := by
  refine kr_bipush (v := 59) rd_d_X11_idle_0 (by decide) ?_
  refine kr_istore_n (lv' := [(1, .int 59), (0, .ref 0)]) rd_d_X11_idle_2 (by decide) rfl ?_
  rw [ax_f_idX]
  exact kr_less (by decide) (Nat.le_refl _) (Nat.le_refl _) (ax_lo_idO G hS hb 60 59 rfl)
def ax_s_idJ (s : Nat → Int32) (t : Int32) (e : Int32 → Int32) (rec : Int32 → Int32 → Int32) (k n : Int32) : Int32 := if (s 0) ≤ k then e n else if n = 0 then rec (k + 1) 0 else if (ax_f_bgM (s) k (t - 1)) = 0 then rec (k + 1) 1 else rec (k + 1) 0
def ax_l_idJ (s : Nat → Int32) (t : Int32) (e : Int32 → Int32) : Nat → Int32 → Int32 → Int32
  | 0, k, n => ax_s_idJ s t e (fun _ _ => 0) k n
  | f + 1, k, n => ax_s_idJ s t e (ax_l_idJ s t e f) k n
theorem ax_l_idJ_zero (s : Nat → Int32) (t : Int32) (e : Int32 → Int32) (k n : Int32) : ax_l_idJ s t e 0 k n = ax_s_idJ s t e (fun _ _ => 0) k n := rfl
theorem ax_l_idJ_succ (s : Nat → Int32) (t : Int32) (e : Int32 → Int32) (f : Nat) (k n : Int32) : ax_l_idJ s t e (f + 1) k n = ax_s_idJ s t e (ax_l_idJ s t e f) k n := rfl
theorem ax_lo_idJ (G : sx_G0 g L xs z9 hd_C ex_mt) {σ : am_S} (hS : ax_S σ) (t : Int32) (e : Int32 → Int32) (hb : pl_B (σ.2.1 120)) (kk : ∀ w2 n2 : Int32, am_K g 7 tX12_idle.1 0 0 57 [(3, .int w2), (2, .int n2), (1, .int t), (0, .ref 118)] [] σ (ax_R (e n2) σ)) : ∀ (f j : Nat) (k n : Int32), k.toInt = (j : Int) → j + f = 10 → am_K g 7 tX12_idle.1 0 0 20 [(3, .int k), (2, .int n), (1, .int t), (0, .ref 118)] [] σ (ax_R (ax_l_idJ (σ.2.1 120) t e f k n) σ) := by
  intro f
  induction f with
  | zero =>
    intro j k n ek hj
    obtain ⟨⟨hb0, hb1⟩, hb2⟩ := id hb
    refine kr_iload_n 0 rd_d_X12_idle_20 rfl ?_
    refine kr_aload_n 3 rd_d_X12_idle_21 rfl ?_
    refine kr_getf G.1 (rd_FL rd_k_X12_idle_22).1 rd_d_X12_idle_22 (hS.1 118 (.inl 12) rfl) (v := .ref 120) (by unfold am_fa; rw [(rd_FL rd_k_X12_idle_22).2]; exact hS.2 118 6 120 rfl) ?_
    refine kr_iconst (v := 0) rd_d_X12_idle_25 (by decide) ?_
    refine kr_iald G.1 (n := 277) rd_d_X12_idle_26 (hS.1 120 (.inr (.int, 277)) rfl) (hd_in (n := 0) (by decide) (by decide)) ?_
    rw [hd_clamp (n := 0) (by decide)]
    refine kr_icmp_ge (tgt := 57) rd_d_X12_idle_27 rfl (fun h1 => ?_) (fun h1 => ?_)
    · rw [ax_l_idJ_zero, ax_s_idJ, if_pos h1]
      exact kk _ _
    · exact absurd (Int32.le_iff_toInt_le.mpr (by omega)) h1
  | succ f ih =>
    intro j k n ek hj
    obtain ⟨⟨hb0, hb1⟩, hb2⟩ := id hb
    refine kr_iload_n 0 rd_d_X12_idle_20 rfl ?_
    refine kr_aload_n 3 rd_d_X12_idle_21 rfl ?_
    refine kr_getf G.1 (rd_FL rd_k_X12_idle_22).1 rd_d_X12_idle_22 (hS.1 118 (.inl 12) rfl) (v := .ref 120) (by unfold am_fa; rw [(rd_FL rd_k_X12_idle_22).2]; exact hS.2 118 6 120 rfl) ?_
    refine kr_iconst (v := 0) rd_d_X12_idle_25 (by decide) ?_
    refine kr_iald G.1 (n := 277) rd_d_X12_idle_26 (hS.1 120 (.inr (.int, 277)) rfl) (hd_in (n := 0) (by decide) (by decide)) ?_
    rw [hd_clamp (n := 0) (by decide)]
    refine kr_icmp_ge (tgt := 57) rd_d_X12_idle_27 rfl (fun h1 => ?_) (fun h1 => ?_)
    · rw [ax_l_idJ_succ, ax_s_idJ, if_pos h1]
      exact kk _ _
    · refine kr_iload_n 1 rd_d_X12_idle_30 rfl ?_
      refine kr_if_eq (tgt := 49) rd_d_X12_idle_31 rfl (fun h2 => ?_) (fun h2 => ?_)
      · refine kr_iconst (v := 0) rd_d_X12_idle_49 (by decide) ?_
        refine kr_istore_n (lv' := [(2, .int 0), (3, .int k), (1, .int t), (0, .ref 118)]) rd_d_X12_idle_50 (by decide) rfl ?_
        refine kr_iinc (v := k + 1) (lv' := [(3, .int (k + 1)), (2, .int 0), (1, .int t), (0, .ref 118)]) 1 rd_d_X12_idle_51 rfl rfl (by decide) rfl ?_
        refine kr_goto (tgt := 20) rd_d_X12_idle_54 rfl ?_
        rw [ax_l_idJ_succ, ax_s_idJ, if_neg h1, if_pos h2]
        exact ih (j + 1) (k + 1) 0 (ax_inc ek (by omega)) (by omega)
      · refine kr_aload_n 3 rd_d_X12_idle_34 rfl ?_
        refine kr_iload_n 0 rd_d_X12_idle_35 rfl ?_
        refine kr_iload_n 2 rd_d_X12_idle_36 rfl ?_
        refine kr_iconst (v := 1) rd_d_X12_idle_37 (by decide) ?_
        refine kr_isub rd_d_X12_idle_38 ?_
        refine rd_call G (T2 := tX12_mostAt) rfl rd_d_X12_idle_39 rd_k_X12_idle_39 rfl (hS.1 118 (.inl 12) rfl) (as := [.int k, .int (t - 1)]) (st := []) rfl (Nat.le_of_ble_eq_true rfl) rfl (Nat.le_of_ble_eq_true rfl) (d1 := 5) (by decide) (fun _ h => by cases h.1) (ax_bgM G hS k (t - 1) hb ⟨by omega, by omega⟩) ?_
        intro v3 σ3 ⟨hv3, hs3⟩
        cases hv3
        rw [hs3]
        refine kr_if_ne (tgt := 49) rd_d_X12_idle_42 rfl (fun h4 => ?_) (fun h4 => ?_)
        · refine kr_iconst (v := 0) rd_d_X12_idle_49 (by decide) ?_
          refine kr_istore_n (lv' := [(2, .int 0), (3, .int k), (1, .int t), (0, .ref 118)]) rd_d_X12_idle_50 (by decide) rfl ?_
          refine kr_iinc (v := k + 1) (lv' := [(3, .int (k + 1)), (2, .int 0), (1, .int t), (0, .ref 118)]) 1 rd_d_X12_idle_51 rfl rfl (by decide) rfl ?_
          refine kr_goto (tgt := 20) rd_d_X12_idle_54 rfl ?_
          rw [ax_l_idJ_succ, ax_s_idJ, if_neg h1, if_neg h2, if_neg h4]
          exact ih (j + 1) (k + 1) 0 (ax_inc ek (by omega)) (by omega)
        · refine kr_iconst (v := 1) rd_d_X12_idle_45 (by decide) ?_
          refine kr_goto (tgt := 50) rd_d_X12_idle_46 rfl ?_
          refine kr_istore_n (lv' := [(2, .int 1), (3, .int k), (1, .int t), (0, .ref 118)]) rd_d_X12_idle_50 (by decide) rfl ?_
          refine kr_iinc (v := k + 1) (lv' := [(3, .int (k + 1)), (2, .int 1), (1, .int t), (0, .ref 118)]) 1 rd_d_X12_idle_51 rfl rfl (by decide) rfl ?_
          refine kr_goto (tgt := 20) rd_d_X12_idle_54 rfl ?_
          rw [ax_l_idJ_succ, ax_s_idJ, if_neg h1, if_neg h2, if_pos h4]
          exact ih (j + 1) (k + 1) 1 (ax_inc ek (by omega)) (by omega)
def ax_s_idP (s : Nat → Int32) (rec : Int32 → Int32 → Int32) (t n : Int32) : Int32 := if t ≤ 0 then t else if n = 0 then t else ax_l_idJ (s) t (fun n2 => if n2 = 0 then t else rec (t + (-1)) n2) 10 0 n
def ax_l_idP (s : Nat → Int32) : Nat → Int32 → Int32 → Int32
  | 0, t, n => ax_s_idP s (fun _ _ => 0) t n
  | f + 1, t, n => ax_s_idP s (ax_l_idP s f) t n
theorem ax_l_idP_zero (s : Nat → Int32) (t n : Int32) : ax_l_idP s 0 t n = ax_s_idP s (fun _ _ => 0) t n := rfl
theorem ax_l_idP_succ (s : Nat → Int32) (f : Nat) (t n : Int32) : ax_l_idP s (f + 1) t n = ax_s_idP s (ax_l_idP s f) t n := rfl
theorem ax_lo_idP (G : sx_G0 g L xs z9 hd_C ex_mt) {σ : am_S} (hS : ax_S σ) (hb : pl_B (σ.2.1 120)) : ∀ (f : Nat) (t n : Int32), t.toInt = (f : Int) → am_K g 7 tX12_idle.1 0 0 10 [(2, .int n), (1, .int t), (0, .ref 118)] [] σ (ax_R (ax_l_idP (σ.2.1 120) f t n) σ) := by
  intro f
  induction f with
  | zero =>
    intro t n ek
    refine kr_iload_n 1 rd_d_X12_idle_10 rfl ?_
    refine kr_if_le (tgt := 67) rd_d_X12_idle_11 rfl (fun h1 => ?_) (fun h1 => ?_)
    · refine kr_iload_n 1 rd_d_X12_idle_67 rfl ?_
      exact kr_ireturn rd_d_X12_idle_68 (ty := .int) rfl rfl ⟨by rw [ax_l_idP_zero, ax_s_idP, if_pos h1], rfl⟩
    · exact absurd (Int32.le_iff_toInt_le.mpr (by show _ ≤ (0 : Int); omega)) h1
  | succ f ih =>
    intro t n ek
    refine kr_iload_n 1 rd_d_X12_idle_10 rfl ?_
    refine kr_if_le (tgt := 67) rd_d_X12_idle_11 rfl (fun h1 => ?_) (fun h1 => ?_)
    · refine kr_iload_n 1 rd_d_X12_idle_67 rfl ?_
      exact kr_ireturn rd_d_X12_idle_68 (ty := .int) rfl rfl ⟨by rw [ax_l_idP_succ, ax_s_idP, if_pos h1], rfl⟩
    · refine kr_iload_n 0 rd_d_X12_idle_14 rfl ?_
      refine kr_if_eq (tgt := 67) rd_d_X12_idle_15 rfl (fun h2 => ?_) (fun h2 => ?_)
      · refine kr_iload_n 1 rd_d_X12_idle_67 rfl ?_
        exact kr_ireturn rd_d_X12_idle_68 (ty := .int) rfl rfl ⟨by rw [ax_l_idP_succ, ax_s_idP, if_neg h1, if_pos h2], rfl⟩
      · refine kr_iconst (v := 0) rd_d_X12_idle_18 (by decide) ?_
        refine kr_istore_n (lv' := [(3, .int 0), (2, .int n), (1, .int t), (0, .ref 118)]) rd_d_X12_idle_19 (by decide) rfl ?_
        rw [ax_l_idP_succ, ax_s_idP, if_neg h1, if_neg h2]
        refine ax_lo_idJ G hS t (fun n2 => if n2 = 0 then t else ax_l_idP (σ.2.1 120) f (t + (-1)) n2) hb (fun w2 n2 => ?_) 10 0 0 n rfl rfl
        refine kr_iload_n 1 rd_d_X12_idle_57 rfl ?_
        refine kr_if_eq (tgt := 10) rd_d_X12_idle_58 rfl (fun q => ?_) (fun q => ?_)
        · refine kr_iload_n 2 rd_d_X12_idle_10 rfl ?_
          refine kr_if_le (tgt := 67) rd_d_X12_idle_11 rfl (fun z => absurd z h1) (fun _ => ?_)
          refine kr_iload_n 1 rd_d_X12_idle_14 rfl ?_
          refine kr_if_eq (tgt := 67) rd_d_X12_idle_15 rfl (fun _ => ?_) (fun z => absurd q z)
          refine kr_iload_n 2 rd_d_X12_idle_67 rfl ?_
          exact kr_ireturn rd_d_X12_idle_68 (ty := .int) rfl rfl ⟨by rw [if_pos q], rfl⟩
        · refine kr_iinc (v := t + (-1)) (lv' := [(1, .int (t + (-1))), (3, .int w2), (2, .int n2), (0, .ref 118)]) 2 rd_d_X12_idle_61 rfl rfl (by decide) rfl ?_
          refine kr_goto (tgt := 10) rd_d_X12_idle_64 rfl ?_
          refine kr_sub (lv' := [(2, .int n2), (1, .int (t + (-1))), (0, .ref 118)]) (by simp) ?_
          rw [if_neg q]
          exact ih (t + (-1)) n2 (ax_dec0 ek)
def ax_f_idM (s : Nat → Int32) : Int32 := ax_l_idP (s) 60 60 1
theorem ax_idM (G : sx_G0 g L xs z9 hd_C ex_mt) {σ : am_S} (hS : ax_S σ) (h1 : pl_B (σ.2.1 120)) : am_K g 7 tX12_idle.1 0 0 0 (lv_args 0 [.ref 118]) [] σ (fun r _ => r = some (some (.int (ax_f_idM (σ.2.1 120))))) := by
  refine ax_thr G hS rd_d_X12_idle_0 rd_d_X12_idle_1 rd_d_X12_idle_2 rd_k_X12_idle_2 rfl ?_
  intro τ hT hm hm8
  have e120 : σ.2.1 120 = τ.2.1 120 := funext fun k => (hm 120 k (by decide)).symm
  have hb := e120 ▸ h1
  refine kr_bipush (v := 60) rd_d_X12_idle_5 (by decide) ?_
  refine kr_istore_n (lv' := [(1, .int 60), (0, .ref 118)]) rd_d_X12_idle_7 (by decide) rfl ?_
  refine kr_iconst (v := 1) rd_d_X12_idle_8 (by decide) ?_
  refine kr_istore_n (lv' := [(2, .int 1), (1, .int 60), (0, .ref 118)]) rd_d_X12_idle_9 (by decide) rfl ?_
  refine kr_mono ?_ (kr_less (d := 7) (by decide) (Nat.le_refl _) (Nat.le_refl _) (ax_lo_idP G hT hb 60 60 1 rfl))
  exact fun r σ' h => h.1.trans (by rw [e120, ax_f_idM])
theorem id_n {s : Nat → Int32} (b : pl_B s) (t : Int32) (e : Int32 → Int32) : ∀ (f j : Nat) (k : Int32), k.toInt = (j : Int) → j + f = 10 → ax_l_idJ s t e f k 0 = e 0 := by
  obtain ⟨⟨b0, b1⟩, -⟩ := id b
  intro f
  induction f with
  | zero =>
    intro j k ek hj
    rw [ax_l_idJ_zero, ax_s_idJ, if_pos (Int32.le_iff_toInt_le.mpr (by omega))]
  | succ f ih =>
    intro j k ek hj
    rw [ax_l_idJ_succ, ax_s_idJ]
    split
    · rfl
    · rw [if_pos rfl]
      exact ih (j + 1) _ (ax_inc ek (by omega)) (by omega)
theorem id_i {m : Nat → Nat → Int32} {s : Nat → Int32} (h : pl_R m 4 s) (b : pl_B s) (b2 : pl_B2 s) {t u v : Int32} (hu : u - 1 = t) (e : Int32 → Int32) (h0 : e 0 = t + 1) : ∀ (f j : Nat) (k : Int32), k.toInt = (j : Int) → j + f = 10 → ax_l_idI m t (e 1) f k = ax_l_idJ s u e f k 1 := by
  obtain ⟨⟨b0, b1⟩, -⟩ := id b
  have hw := pl_w h
  intro f
  induction f with
  | zero =>
    intro j k ek hj
    rw [ax_l_idI_zero, ax_l_idJ_zero, ax_s_idI, ax_s_idJ, hw, if_pos (Int32.le_iff_toInt_le.mpr (by omega)), if_pos (Int32.le_iff_toInt_le.mpr (by omega))]
  | succ f ih =>
    intro j k ek hj
    rw [ax_l_idI_succ, ax_l_idJ_succ, ax_s_idI, ax_s_idJ, hw, hu]
    by_cases q : s 0 ≤ k
    · rw [if_pos q, if_pos q]
    · have q' : ¬ (s 0).toInt ≤ k.toInt := fun z => q (Int32.le_iff_toInt_le.mpr z)
      have ha := ax_winV b (a := k) ⟨by omega, by omega⟩
      have g := bg_b b b2 (ax_win10 b ha) t
      rw [if_neg q, if_neg q, if_neg (c := (1 : Int32) = 0) (by decide), bg_eq h b ha]
      by_cases z : ax_f_bgM s k t = 0
      · rw [if_pos z, if_pos (Int32.le_iff_toInt_le.mpr (by rw [z]; decide))]
        exact ih (j + 1) _ (ax_inc ek (by omega)) (by omega)
      · rw [if_neg z, if_neg (fun y => z (Int32.toInt_inj.mp (by have y' : (ax_f_bgM s k t).toInt ≤ 0 := Int32.le_iff_toInt_le.mp y; have : (0 : Int32).toInt = 0 := rfl; omega))), id_n b u e f (j + 1) _ (ax_inc ek (by omega)) (by omega), h0]
theorem id_o {m : Nat → Nat → Int32} {s : Nat → Int32} (h : pl_R m 4 s) (b : pl_B s) (b2 : pl_B2 s) : ∀ (f : Nat) (t u : Int32), t.toInt = (f : Int) - 1 → u.toInt = (f : Int) → ax_l_idO m f t = ax_l_idP s f u 1 := by
  have z0 : (0 : Int32).toInt = 0 := rfl
  have z1 : (1 : Int32).toInt = 1 := rfl
  intro f
  induction f with
  | zero =>
    intro t u et eu
    rw [ax_l_idO_zero, ax_l_idP_zero, ax_s_idO, ax_s_idP, if_pos (Int32.lt_iff_toInt_lt.mpr (by omega)), if_pos (Int32.le_iff_toInt_le.mpr (by omega))]
    exact Int32.toInt_inj.mp (by omega)
  | succ f ih =>
    intro t u et eu
    have lt := Int32.toInt_lt u
    have e1 := sx_subI u 1 (by show (-2147483648 : Int) ≤ _; omega) (by show _ ≤ (2147483647 : Int); omega)
    have hu : u - 1 = t := Int32.toInt_inj.mp (by omega)
    have e2 := sx_addI t 1 (by show (-2147483648 : Int) ≤ _; omega) (by show _ ≤ (2147483647 : Int); omega)
    have hv : t + 1 = u := Int32.toInt_inj.mp (by omega)
    have i := ih (t + (-1)) (u + (-1)) (ax_dec et) (ax_dec0 eu)
    rw [ax_l_idO_succ, ax_l_idP_succ, ax_s_idO, ax_s_idP, if_neg (fun q => by have := Int32.lt_iff_toInt_lt.mp q; omega), if_neg (fun q => by have := Int32.le_iff_toInt_le.mp q; omega), if_neg (c := (1 : Int32) = 0) (by decide), i]
    exact id_i (v := u) h b b2 hu (fun n2 => if n2 = 0 then u else ax_l_idP s f (u + (-1)) n2) (by rw [hv]; rfl) 10 0 0 rfl rfl
theorem idl_eq {m : Nat → Nat → Int32} {s : Nat → Int32} (h : pl_R m 4 s) (b : pl_B s) (b2 : pl_B2 s) : ax_f_idX m = ax_f_idM s := by
  rw [ax_f_idX, ax_f_idM]
  exact id_o h b b2 60 59 60 rfl rfl
end AXX
