/-! exact answers (rows written by a program) -/
theorem ax_inc {k : Int32} {j : Nat} (h : k.toInt = (j : Int)) (hj : j < 100000) : (k + 1).toInt = ((j + 1 : Nat) : Int) := by
  have z1 : (1 : Int32).toInt = 1 := rfl
  rw [sx_addI k 1 (by show (-2147483648 : Int) ≤ _; omega) (by show _ ≤ (2147483647 : Int); omega)]
  omega
theorem ax_ixn {c w : Int32} {C : Nat} (hc : c.toInt = C) (hC : C < 1000) (hw : 0 ≤ w.toInt ∧ w.toInt < 1000) : (c + w).toInt = ((C + w.toInt.toNat : Nat) : Int) := by
  rw [sx_addI c w (by show (-2147483648 : Int) ≤ _; omega) (by show _ ≤ (2147483647 : Int); omega)]
  omega
theorem ax_lkc {a o df : Int} {r : List (Int × Int)} {x A : Int32} (hA : A.toInt = a) (h : ¬ x = A) : Op.lookupswitch.offset ((a, o) :: r) df x.toInt = Op.lookupswitch.offset r df x.toInt := by
  rw [Op.lookupswitch.offset_cons, if_neg (fun e => h (Int32.toInt_inj.mp (by rw [hA, ← e])))]
theorem ax_dec {k : Int32} {f : Nat} (h : k.toInt = ((f + 1 : Nat) : Int) - 1) : (k + (-1)).toInt = (f : Int) - 1 := by
  have z1 : ((-1 : Int32)).toInt = -1 := rfl
  have := Int32.toInt_lt k
  rw [sx_addI k (-1) (by show (-2147483648 : Int) ≤ _; omega) (by show _ ≤ (2147483647 : Int); omega)]
  omega
theorem ax_dec0 {k : Int32} {f : Nat} (h : k.toInt = ((f + 1 : Nat) : Int)) : (k + (-1)).toInt = (f : Int) := by
  have z1 : ((-1 : Int32)).toInt = -1 := rfl
  have := Int32.toInt_lt k
  rw [sx_addI k (-1) (by show (-2147483648 : Int) ≤ _; omega) (by show _ ≤ (2147483647 : Int); omega)]
  omega
def ax_f_max (x y : Int32) : Int32 := if x < y then y else x
theorem ax_isIn_b (a b c : Int32) : narrow .boolean (.int (ax_f_isIn a b c)) = .int (ax_f_isIn a b c) := by
  rw [ax_f_isIn]
  split
  · rfl
  · split <;> rfl
theorem ax_ixc {w : Int32} {n : Nat} (h : w.toInt = (n : Int)) : w.toInt = ((w.toInt.toNat : Nat) : Int) := by omega
theorem rd_d_X9_has_0 : decode tX9_has.1.2.1 0 = .ok (.iload_n 1, 1) := by decide +kernel
theorem rd_d_X9_has_1 : decode tX9_has.1.2.1 1 = .ok (.ifCond .lt 15, 3) := by decide +kernel
theorem rd_d_X9_has_4 : decode tX9_has.1.2.1 4 = .ok (.iload_n 1, 1) := by decide +kernel
theorem rd_d_X9_has_5 : decode tX9_has.1.2.1 5 = .ok (.aload_n 0, 1) := by decide +kernel
theorem rd_d_X9_has_6 : decode tX9_has.1.2.1 6 = .ok (.getfield 39, 3) := by decide +kernel
theorem rd_k_X9_has_6 : ex_lk ex_mt tX9_has 6 (.getfield 39) [9, 7, 0, 65656] = true := by decide +kernel
theorem rd_d_X9_has_9 : decode tX9_has.1.2.1 9 = .ok (.if_icmp .ge 7, 3) := by decide +kernel
theorem rd_d_X9_has_12 : decode tX9_has.1.2.1 12 = .ok (.iconst 1, 1) := by decide +kernel
theorem rd_d_X9_has_13 : decode tX9_has.1.2.1 13 = .ok (.goto 4, 3) := by decide +kernel
theorem rd_d_X9_has_16 : decode tX9_has.1.2.1 16 = .ok (.iconst 0, 1) := by decide +kernel
theorem rd_d_X9_has_17 : decode tX9_has.1.2.1 17 = .ok (.ireturn, 1) := by decide +kernel
theorem rd_d_X12_isWindow_0 : decode tX12_isWindow.1.2.1 0 = .ok (.iload_n 1, 1) := by decide +kernel
theorem rd_d_X12_isWindow_1 : decode tX12_isWindow.1.2.1 1 = .ok (.iconst 0, 1) := by decide +kernel
theorem rd_d_X12_isWindow_2 : decode tX12_isWindow.1.2.1 2 = .ok (.aload_n 0, 1) := by decide +kernel
theorem rd_d_X12_isWindow_3 : decode tX12_isWindow.1.2.1 3 = .ok (.getfield 33, 3) := by decide +kernel
theorem rd_k_X12_isWindow_3 : ex_lk ex_mt tX12_isWindow 3 (.getfield 33) [12, 6, 2, 458773] = true := by decide +kernel
theorem rd_d_X12_isWindow_6 : decode tX12_isWindow.1.2.1 6 = .ok (.iconst 0, 1) := by decide +kernel
theorem rd_d_X12_isWindow_7 : decode tX12_isWindow.1.2.1 7 = .ok (.iaload, 1) := by decide +kernel
theorem rd_d_X12_isWindow_8 : decode tX12_isWindow.1.2.1 8 = .ok (.iconst 1, 1) := by decide +kernel
theorem rd_d_X12_isWindow_9 : decode tX12_isWindow.1.2.1 9 = .ok (.isub, 1) := by decide +kernel
theorem rd_d_X12_isWindow_10 : decode tX12_isWindow.1.2.1 10 = .ok (.invokestatic 134, 3) := by decide +kernel
theorem rd_k_X12_isWindow_10 : ex_lk ex_mt tX12_isWindow 10 (.invokestatic 134) [0, 119, 458953] = true := by decide +kernel
theorem rd_d_X12_isWindow_13 : decode tX12_isWindow.1.2.1 13 = .ok (.ireturn, 1) := by decide +kernel
theorem rd_d_X9_priceOf_0 : decode tX9_priceOf.1.2.1 0 = .ok (.aload_n 0, 1) := by decide +kernel
theorem rd_d_X9_priceOf_1 : decode tX9_priceOf.1.2.1 1 = .ok (.getfield 9, 3) := by decide +kernel
theorem rd_k_X9_priceOf_1 : ex_lk ex_mt tX9_priceOf 1 (.getfield 9) [9, 0, 2, 65649] = true := by decide +kernel
theorem rd_d_X9_priceOf_4 : decode tX9_priceOf.1.2.1 4 = .ok (.iload_n 1, 1) := by decide +kernel
theorem rd_d_X9_priceOf_5 : decode tX9_priceOf.1.2.1 5 = .ok (.invokestatic 118, 3) := by decide +kernel
theorem rd_k_X9_priceOf_5 : ex_lk ex_mt tX9_priceOf 5 (.invokestatic 118) [0, 32, 196745] = true := by decide +kernel
theorem rd_d_X9_priceOf_8 : decode tX9_priceOf.1.2.1 8 = .ok (.ireturn, 1) := by decide +kernel
theorem rd_d_X9_takesOf_0 : decode tX9_takesOf.1.2.1 0 = .ok (.aload_n 0, 1) := by decide +kernel
theorem rd_d_X9_takesOf_1 : decode tX9_takesOf.1.2.1 1 = .ok (.getfield 15, 3) := by decide +kernel
theorem rd_k_X9_takesOf_1 : ex_lk ex_mt tX9_takesOf 1 (.getfield 15) [9, 1, 2, 65650] = true := by decide +kernel
theorem rd_d_X9_takesOf_4 : decode tX9_takesOf.1.2.1 4 = .ok (.iload_n 1, 1) := by decide +kernel
theorem rd_d_X9_takesOf_5 : decode tX9_takesOf.1.2.1 5 = .ok (.invokestatic 118, 3) := by decide +kernel
theorem rd_k_X9_takesOf_5 : ex_lk ex_mt tX9_takesOf 5 (.invokestatic 118) [0, 32, 196745] = true := by decide +kernel
theorem rd_d_X9_takesOf_8 : decode tX9_takesOf.1.2.1 8 = .ok (.ireturn, 1) := by decide +kernel
theorem rd_d_X9_weightFrom_0 : decode tX9_weightFrom.1.2.1 0 = .ok (.iconst 0, 1) := by decide +kernel
theorem rd_d_X9_weightFrom_1 : decode tX9_weightFrom.1.2.1 1 = .ok (.istore_n 2, 1) := by decide +kernel
theorem rd_d_X9_weightFrom_2 : decode tX9_weightFrom.1.2.1 2 = .ok (.iconst 0, 1) := by decide +kernel
theorem rd_d_X9_weightFrom_3 : decode tX9_weightFrom.1.2.1 3 = .ok (.istore_n 3, 1) := by decide +kernel
theorem rd_d_X9_weightFrom_4 : decode tX9_weightFrom.1.2.1 4 = .ok (.iload_n 3, 1) := by decide +kernel
theorem rd_d_X9_weightFrom_5 : decode tX9_weightFrom.1.2.1 5 = .ok (.aload_n 0, 1) := by decide +kernel
theorem rd_d_X9_weightFrom_6 : decode tX9_weightFrom.1.2.1 6 = .ok (.getfield 43, 3) := by decide +kernel
theorem rd_k_X9_weightFrom_6 : ex_lk ex_mt tX9_weightFrom 6 (.getfield 43) [9, 8, 0, 65660] = true := by decide +kernel
theorem rd_d_X9_weightFrom_9 : decode tX9_weightFrom.1.2.1 9 = .ok (.if_icmp .ge 46, 3) := by decide +kernel
theorem rd_d_X9_weightFrom_12 : decode tX9_weightFrom.1.2.1 12 = .ok (.iload_n 3, 1) := by decide +kernel
theorem rd_d_X9_weightFrom_13 : decode tX9_weightFrom.1.2.1 13 = .ok (.aload_n 0, 1) := by decide +kernel
theorem rd_d_X9_weightFrom_14 : decode tX9_weightFrom.1.2.1 14 = .ok (.getfield 24, 3) := by decide +kernel
theorem rd_k_X9_weightFrom_14 : ex_lk ex_mt tX9_weightFrom 14 (.getfield 24) [9, 4, 2, 65653] = true := by decide +kernel
theorem rd_d_X9_weightFrom_17 : decode tX9_weightFrom.1.2.1 17 = .ok (.arraylength, 1) := by decide +kernel
theorem rd_d_X9_weightFrom_18 : decode tX9_weightFrom.1.2.1 18 = .ok (.if_icmp .ge 37, 3) := by decide +kernel
theorem rd_d_X9_weightFrom_21 : decode tX9_weightFrom.1.2.1 21 = .ok (.iload_n 3, 1) := by decide +kernel
theorem rd_d_X9_weightFrom_22 : decode tX9_weightFrom.1.2.1 22 = .ok (.aload_n 0, 1) := by decide +kernel
theorem rd_d_X9_weightFrom_23 : decode tX9_weightFrom.1.2.1 23 = .ok (.getfield 27, 3) := by decide +kernel
theorem rd_k_X9_weightFrom_23 : ex_lk ex_mt tX9_weightFrom 23 (.getfield 27) [9, 5, 2, 65654] = true := by decide +kernel
theorem rd_d_X9_weightFrom_26 : decode tX9_weightFrom.1.2.1 26 = .ok (.arraylength, 1) := by decide +kernel
theorem rd_d_X9_weightFrom_27 : decode tX9_weightFrom.1.2.1 27 = .ok (.if_icmp .ge 28, 3) := by decide +kernel
theorem rd_d_X9_weightFrom_30 : decode tX9_weightFrom.1.2.1 30 = .ok (.aload_n 0, 1) := by decide +kernel
theorem rd_d_X9_weightFrom_31 : decode tX9_weightFrom.1.2.1 31 = .ok (.getfield 24, 3) := by decide +kernel
theorem rd_k_X9_weightFrom_31 : ex_lk ex_mt tX9_weightFrom 31 (.getfield 24) [9, 4, 2, 65653] = true := by decide +kernel
theorem rd_d_X9_weightFrom_34 : decode tX9_weightFrom.1.2.1 34 = .ok (.iload_n 3, 1) := by decide +kernel
theorem rd_d_X9_weightFrom_35 : decode tX9_weightFrom.1.2.1 35 = .ok (.iaload, 1) := by decide +kernel
theorem rd_d_X9_weightFrom_36 : decode tX9_weightFrom.1.2.1 36 = .ok (.iload_n 1, 1) := by decide +kernel
theorem rd_d_X9_weightFrom_37 : decode tX9_weightFrom.1.2.1 37 = .ok (.if_icmp .lt 12, 3) := by decide +kernel
theorem rd_d_X9_weightFrom_40 : decode tX9_weightFrom.1.2.1 40 = .ok (.iload_n 2, 1) := by decide +kernel
theorem rd_d_X9_weightFrom_41 : decode tX9_weightFrom.1.2.1 41 = .ok (.aload_n 0, 1) := by decide +kernel
theorem rd_d_X9_weightFrom_42 : decode tX9_weightFrom.1.2.1 42 = .ok (.getfield 27, 3) := by decide +kernel
theorem rd_k_X9_weightFrom_42 : ex_lk ex_mt tX9_weightFrom 42 (.getfield 27) [9, 5, 2, 65654] = true := by decide +kernel
theorem rd_d_X9_weightFrom_45 : decode tX9_weightFrom.1.2.1 45 = .ok (.iload_n 3, 1) := by decide +kernel
theorem rd_d_X9_weightFrom_46 : decode tX9_weightFrom.1.2.1 46 = .ok (.iaload, 1) := by decide +kernel
theorem rd_d_X9_weightFrom_47 : decode tX9_weightFrom.1.2.1 47 = .ok (.iadd, 1) := by decide +kernel
theorem rd_d_X9_weightFrom_48 : decode tX9_weightFrom.1.2.1 48 = .ok (.istore_n 2, 1) := by decide +kernel
theorem rd_d_X9_weightFrom_49 : decode tX9_weightFrom.1.2.1 49 = .ok (.iinc 3 1, 3) := by decide +kernel
theorem rd_d_X9_weightFrom_52 : decode tX9_weightFrom.1.2.1 52 = .ok (.goto (-48), 3) := by decide +kernel
theorem rd_d_X9_weightFrom_55 : decode tX9_weightFrom.1.2.1 55 = .ok (.iload_n 2, 1) := by decide +kernel
theorem rd_d_X9_weightFrom_56 : decode tX9_weightFrom.1.2.1 56 = .ok (.ireturn, 1) := by decide +kernel
theorem rd_d_X12_standing_0 : decode tX12_standing.1.2.1 0 = .ok (.iconst 0, 1) := by decide +kernel
theorem rd_d_X12_standing_1 : decode tX12_standing.1.2.1 1 = .ok (.istore_n 2, 1) := by decide +kernel
theorem rd_d_X12_standing_2 : decode tX12_standing.1.2.1 2 = .ok (.iconst 0, 1) := by decide +kernel
theorem rd_d_X12_standing_3 : decode tX12_standing.1.2.1 3 = .ok (.istore_n 3, 1) := by decide +kernel
theorem rd_d_X12_standing_4 : decode tX12_standing.1.2.1 4 = .ok (.iload_n 3, 1) := by decide +kernel
theorem rd_d_X12_standing_5 : decode tX12_standing.1.2.1 5 = .ok (.aload_n 0, 1) := by decide +kernel
theorem rd_d_X12_standing_6 : decode tX12_standing.1.2.1 6 = .ok (.invokevirtual 205, 3) := by decide +kernel
theorem rd_k_X12_standing_6 : ex_lk ex_mt tX12_standing 6 (.invokevirtual 205) [0, 171, 524299] = true := by decide +kernel
theorem rd_d_X12_standing_9 : decode tX12_standing.1.2.1 9 = .ok (.if_icmp .ge 30, 3) := by decide +kernel
theorem rd_d_X12_standing_12 : decode tX12_standing.1.2.1 12 = .ok (.iload_n 2, 1) := by decide +kernel
theorem rd_d_X12_standing_13 : decode tX12_standing.1.2.1 13 = .ok (.aload_n 0, 1) := by decide +kernel
theorem rd_d_X12_standing_14 : decode tX12_standing.1.2.1 14 = .ok (.iload_n 3, 1) := by decide +kernel
theorem rd_d_X12_standing_15 : decode tX12_standing.1.2.1 15 = .ok (.invokevirtual 208, 3) := by decide +kernel
theorem rd_k_X12_standing_15 : ex_lk ex_mt tX12_standing 15 (.invokevirtual 208) [0, 163, 524306] = true := by decide +kernel
theorem rd_d_X12_standing_18 : decode tX12_standing.1.2.1 18 = .ok (.iload_n 1, 1) := by decide +kernel
theorem rd_d_X12_standing_19 : decode tX12_standing.1.2.1 19 = .ok (.if_icmp .lt 11, 3) := by decide +kernel
theorem rd_d_X12_standing_22 : decode tX12_standing.1.2.1 22 = .ok (.aload_n 0, 1) := by decide +kernel
theorem rd_d_X12_standing_23 : decode tX12_standing.1.2.1 23 = .ok (.iload_n 3, 1) := by decide +kernel
theorem rd_d_X12_standing_24 : decode tX12_standing.1.2.1 24 = .ok (.invokevirtual 211, 3) := by decide +kernel
theorem rd_k_X12_standing_24 : ex_lk ex_mt tX12_standing 24 (.invokevirtual 211) [0, 185, 524310] = true := by decide +kernel
theorem rd_d_X12_standing_27 : decode tX12_standing.1.2.1 27 = .ok (.goto 4, 3) := by decide +kernel
theorem rd_d_X12_standing_30 : decode tX12_standing.1.2.1 30 = .ok (.iconst 0, 1) := by decide +kernel
theorem rd_d_X12_standing_31 : decode tX12_standing.1.2.1 31 = .ok (.iadd, 1) := by decide +kernel
theorem rd_d_X12_standing_32 : decode tX12_standing.1.2.1 32 = .ok (.istore_n 2, 1) := by decide +kernel
theorem rd_d_X12_standing_33 : decode tX12_standing.1.2.1 33 = .ok (.iinc 3 1, 3) := by decide +kernel
theorem rd_d_X12_standing_36 : decode tX12_standing.1.2.1 36 = .ok (.goto (-32), 3) := by decide +kernel
theorem rd_d_X12_standing_39 : decode tX12_standing.1.2.1 39 = .ok (.iload_n 2, 1) := by decide +kernel
theorem rd_d_X12_standing_40 : decode tX12_standing.1.2.1 40 = .ok (.ireturn, 1) := by decide +kernel
theorem rd_d_X9_shy_0 : decode tX9_shy.1.2.1 0 = .ok (.aload_n 0, 1) := by decide +kernel
theorem rd_d_X9_shy_1 : decode tX9_shy.1.2.1 1 = .ok (.getfield 30, 3) := by decide +kernel
theorem rd_k_X9_shy_1 : ex_lk ex_mt tX9_shy 1 (.getfield 30) [9, 6, 2, 65655] = true := by decide +kernel
theorem rd_d_X9_shy_4 : decode tX9_shy.1.2.1 4 = .ok (.iconst 3, 1) := by decide +kernel
theorem rd_d_X9_shy_5 : decode tX9_shy.1.2.1 5 = .ok (.invokestatic 118, 3) := by decide +kernel
theorem rd_k_X9_shy_5 : ex_lk ex_mt tX9_shy 5 (.invokestatic 118) [0, 32, 196745] = true := by decide +kernel
theorem rd_d_X9_shy_8 : decode tX9_shy.1.2.1 8 = .ok (.ireturn, 1) := by decide +kernel
theorem rd_d_X9_honest_0 : decode tX9_honest.1.2.1 0 = .ok (.aload_n 0, 1) := by decide +kernel
theorem rd_d_X9_honest_1 : decode tX9_honest.1.2.1 1 = .ok (.getfield 30, 3) := by decide +kernel
theorem rd_k_X9_honest_1 : ex_lk ex_mt tX9_honest 1 (.getfield 30) [9, 6, 2, 65655] = true := by decide +kernel
theorem rd_d_X9_honest_4 : decode tX9_honest.1.2.1 4 = .ok (.iconst 2, 1) := by decide +kernel
theorem rd_d_X9_honest_5 : decode tX9_honest.1.2.1 5 = .ok (.invokestatic 118, 3) := by decide +kernel
theorem rd_k_X9_honest_5 : ex_lk ex_mt tX9_honest 5 (.invokestatic 118) [0, 32, 196745] = true := by decide +kernel
theorem rd_d_X9_honest_8 : decode tX9_honest.1.2.1 8 = .ok (.ireturn, 1) := by decide +kernel
theorem rd_d_X9_gainOf_0 : decode tX9_gainOf.1.2.1 0 = .ok (.aload_n 0, 1) := by decide +kernel
theorem rd_d_X9_gainOf_1 : decode tX9_gainOf.1.2.1 1 = .ok (.iload_n 3, 1) := by decide +kernel
theorem rd_d_X9_gainOf_2 : decode tX9_gainOf.1.2.1 2 = .ok (.iconst 1, 1) := by decide +kernel
theorem rd_d_X9_gainOf_3 : decode tX9_gainOf.1.2.1 3 = .ok (.iadd, 1) := by decide +kernel
theorem rd_d_X9_gainOf_4 : decode tX9_gainOf.1.2.1 4 = .ok (.invokevirtual 125, 3) := by decide +kernel
theorem rd_k_X9_gainOf_4 : ex_lk ex_mt tX9_gainOf 4 (.invokevirtual 125) [0, 314, 262289] = true := by decide +kernel
theorem rd_d_X9_gainOf_7 : decode tX9_gainOf.1.2.1 7 = .ok (.istore 4, 2) := by decide +kernel
theorem rd_d_X9_gainOf_9 : decode tX9_gainOf.1.2.1 9 = .ok (.iload_n 2, 1) := by decide +kernel
theorem rd_d_X9_gainOf_10 : decode tX9_gainOf.1.2.1 10 = .ok (.iconst 1, 1) := by decide +kernel
theorem rd_d_X9_gainOf_11 : decode tX9_gainOf.1.2.1 11 = .ok (.if_icmp .ne 20, 3) := by decide +kernel
theorem rd_d_X9_gainOf_14 : decode tX9_gainOf.1.2.1 14 = .ok (.aload_n 0, 1) := by decide +kernel
theorem rd_d_X9_gainOf_15 : decode tX9_gainOf.1.2.1 15 = .ok (.iload_n 1, 1) := by decide +kernel
theorem rd_d_X9_gainOf_16 : decode tX9_gainOf.1.2.1 16 = .ok (.invokevirtual 152, 3) := by decide +kernel
theorem rd_k_X9_gainOf_16 : ex_lk ex_mt tX9_gainOf 16 (.invokevirtual 152) [0, 299, 262293] = true := by decide +kernel
theorem rd_d_X9_gainOf_19 : decode tX9_gainOf.1.2.1 19 = .ok (.bipush 12, 2) := by decide +kernel
theorem rd_d_X9_gainOf_21 : decode tX9_gainOf.1.2.1 21 = .ok (.aload_n 0, 1) := by decide +kernel
theorem rd_d_X9_gainOf_22 : decode tX9_gainOf.1.2.1 22 = .ok (.invokevirtual 155, 3) := by decide +kernel
theorem rd_k_X9_gainOf_22 : ex_lk ex_mt tX9_gainOf 22 (.invokevirtual 155) [0, 310, 262294] = true := by decide +kernel
theorem rd_d_X9_gainOf_25 : decode tX9_gainOf.1.2.1 25 = .ok (.isub, 1) := by decide +kernel
theorem rd_d_X9_gainOf_26 : decode tX9_gainOf.1.2.1 26 = .ok (.imul, 1) := by decide +kernel
theorem rd_d_X9_gainOf_27 : decode tX9_gainOf.1.2.1 27 = .ok (.iload 4, 2) := by decide +kernel
theorem rd_d_X9_gainOf_29 : decode tX9_gainOf.1.2.1 29 = .ok (.imul, 1) := by decide +kernel
theorem rd_d_X9_gainOf_30 : decode tX9_gainOf.1.2.1 30 = .ok (.ireturn, 1) := by decide +kernel
theorem rd_d_X9_gainOf_31 : decode tX9_gainOf.1.2.1 31 = .ok (.aload_n 0, 1) := by decide +kernel
theorem rd_d_X9_gainOf_32 : decode tX9_gainOf.1.2.1 32 = .ok (.iload_n 3, 1) := by decide +kernel
theorem rd_d_X9_gainOf_33 : decode tX9_gainOf.1.2.1 33 = .ok (.aload_n 0, 1) := by decide +kernel
theorem rd_d_X9_gainOf_34 : decode tX9_gainOf.1.2.1 34 = .ok (.iload_n 1, 1) := by decide +kernel
theorem rd_d_X9_gainOf_35 : decode tX9_gainOf.1.2.1 35 = .ok (.invokevirtual 158, 3) := by decide +kernel
theorem rd_k_X9_gainOf_35 : ex_lk ex_mt tX9_gainOf 35 (.invokevirtual 158) [0, 311, 262295] = true := by decide +kernel
theorem rd_d_X9_gainOf_38 : decode tX9_gainOf.1.2.1 38 = .ok (.iadd, 1) := by decide +kernel
theorem rd_d_X9_gainOf_39 : decode tX9_gainOf.1.2.1 39 = .ok (.invokevirtual 125, 3) := by decide +kernel
theorem rd_k_X9_gainOf_39 : ex_lk ex_mt tX9_gainOf 39 (.invokevirtual 125) [0, 314, 262289] = true := by decide +kernel
theorem rd_d_X9_gainOf_42 : decode tX9_gainOf.1.2.1 42 = .ok (.istore 5, 2) := by decide +kernel
theorem rd_d_X9_gainOf_44 : decode tX9_gainOf.1.2.1 44 = .ok (.aload_n 0, 1) := by decide +kernel
theorem rd_d_X9_gainOf_45 : decode tX9_gainOf.1.2.1 45 = .ok (.iload_n 1, 1) := by decide +kernel
theorem rd_d_X9_gainOf_46 : decode tX9_gainOf.1.2.1 46 = .ok (.invokevirtual 152, 3) := by decide +kernel
theorem rd_k_X9_gainOf_46 : ex_lk ex_mt tX9_gainOf 46 (.invokevirtual 152) [0, 299, 262293] = true := by decide +kernel
theorem rd_d_X9_gainOf_49 : decode tX9_gainOf.1.2.1 49 = .ok (.bipush 12, 2) := by decide +kernel
theorem rd_d_X9_gainOf_51 : decode tX9_gainOf.1.2.1 51 = .ok (.iload 5, 2) := by decide +kernel
theorem rd_d_X9_gainOf_53 : decode tX9_gainOf.1.2.1 53 = .ok (.imul, 1) := by decide +kernel
theorem rd_d_X9_gainOf_54 : decode tX9_gainOf.1.2.1 54 = .ok (.aload_n 0, 1) := by decide +kernel
theorem rd_d_X9_gainOf_55 : decode tX9_gainOf.1.2.1 55 = .ok (.invokevirtual 161, 3) := by decide +kernel
theorem rd_k_X9_gainOf_55 : ex_lk ex_mt tX9_gainOf 55 (.invokevirtual 161) [0, 294, 262296] = true := by decide +kernel
theorem rd_d_X9_gainOf_58 : decode tX9_gainOf.1.2.1 58 = .ok (.iload 4, 2) := by decide +kernel
theorem rd_d_X9_gainOf_60 : decode tX9_gainOf.1.2.1 60 = .ok (.iload 5, 2) := by decide +kernel
theorem rd_d_X9_gainOf_62 : decode tX9_gainOf.1.2.1 62 = .ok (.isub, 1) := by decide +kernel
theorem rd_d_X9_gainOf_63 : decode tX9_gainOf.1.2.1 63 = .ok (.imul, 1) := by decide +kernel
theorem rd_d_X9_gainOf_64 : decode tX9_gainOf.1.2.1 64 = .ok (.iadd, 1) := by decide +kernel
theorem rd_d_X9_gainOf_65 : decode tX9_gainOf.1.2.1 65 = .ok (.imul, 1) := by decide +kernel
theorem rd_d_X9_gainOf_66 : decode tX9_gainOf.1.2.1 66 = .ok (.ireturn, 1) := by decide +kernel
theorem rd_d_X12_gainOf_0 : decode tX12_gainOf.1.2.1 0 = .ok (.aload_n 0, 1) := by decide +kernel
theorem rd_d_X12_gainOf_1 : decode tX12_gainOf.1.2.1 1 = .ok (.iload_n 3, 1) := by decide +kernel
theorem rd_d_X12_gainOf_2 : decode tX12_gainOf.1.2.1 2 = .ok (.iconst 1, 1) := by decide +kernel
theorem rd_d_X12_gainOf_3 : decode tX12_gainOf.1.2.1 3 = .ok (.iadd, 1) := by decide +kernel
theorem rd_d_X12_gainOf_4 : decode tX12_gainOf.1.2.1 4 = .ok (.invokevirtual 276, 3) := by decide +kernel
theorem rd_k_X12_gainOf_4 : ex_lk ex_mt tX12_gainOf 4 (.invokevirtual 276) [0, 172, 524429] = true := by decide +kernel
theorem rd_d_X12_gainOf_7 : decode tX12_gainOf.1.2.1 7 = .ok (.istore 4, 2) := by decide +kernel
theorem rd_d_X12_gainOf_9 : decode tX12_gainOf.1.2.1 9 = .ok (.iload_n 2, 1) := by decide +kernel
theorem rd_d_X12_gainOf_10 : decode tX12_gainOf.1.2.1 10 = .ok (.iconst 1, 1) := by decide +kernel
theorem rd_d_X12_gainOf_11 : decode tX12_gainOf.1.2.1 11 = .ok (.if_icmp .ne 26, 3) := by decide +kernel
theorem rd_d_X12_gainOf_14 : decode tX12_gainOf.1.2.1 14 = .ok (.aload_n 0, 1) := by decide +kernel
theorem rd_d_X12_gainOf_15 : decode tX12_gainOf.1.2.1 15 = .ok (.getfield 33, 3) := by decide +kernel
theorem rd_k_X12_gainOf_15 : ex_lk ex_mt tX12_gainOf 15 (.getfield 33) [12, 6, 2, 458773] = true := by decide +kernel
theorem rd_d_X12_gainOf_18 : decode tX12_gainOf.1.2.1 18 = .ok (.iconst 2, 1) := by decide +kernel
theorem rd_d_X12_gainOf_19 : decode tX12_gainOf.1.2.1 19 = .ok (.iload_n 1, 1) := by decide +kernel
theorem rd_d_X12_gainOf_20 : decode tX12_gainOf.1.2.1 20 = .ok (.iadd, 1) := by decide +kernel
theorem rd_d_X12_gainOf_21 : decode tX12_gainOf.1.2.1 21 = .ok (.iaload, 1) := by decide +kernel
theorem rd_d_X12_gainOf_22 : decode tX12_gainOf.1.2.1 22 = .ok (.bipush 12, 2) := by decide +kernel
theorem rd_d_X12_gainOf_24 : decode tX12_gainOf.1.2.1 24 = .ok (.aload_n 0, 1) := by decide +kernel
theorem rd_d_X12_gainOf_25 : decode tX12_gainOf.1.2.1 25 = .ok (.getfield 33, 3) := by decide +kernel
theorem rd_k_X12_gainOf_25 : ex_lk ex_mt tX12_gainOf 25 (.getfield 33) [12, 6, 2, 458773] = true := by decide +kernel
theorem rd_d_X12_gainOf_28 : decode tX12_gainOf.1.2.1 28 = .ok (.bipush 57, 2) := by decide +kernel
theorem rd_d_X12_gainOf_30 : decode tX12_gainOf.1.2.1 30 = .ok (.iaload, 1) := by decide +kernel
theorem rd_d_X12_gainOf_31 : decode tX12_gainOf.1.2.1 31 = .ok (.isub, 1) := by decide +kernel
theorem rd_d_X12_gainOf_32 : decode tX12_gainOf.1.2.1 32 = .ok (.imul, 1) := by decide +kernel
theorem rd_d_X12_gainOf_33 : decode tX12_gainOf.1.2.1 33 = .ok (.iload 4, 2) := by decide +kernel
theorem rd_d_X12_gainOf_35 : decode tX12_gainOf.1.2.1 35 = .ok (.imul, 1) := by decide +kernel
theorem rd_d_X12_gainOf_36 : decode tX12_gainOf.1.2.1 36 = .ok (.ireturn, 1) := by decide +kernel
theorem rd_d_X12_gainOf_37 : decode tX12_gainOf.1.2.1 37 = .ok (.aload_n 0, 1) := by decide +kernel
theorem rd_d_X12_gainOf_38 : decode tX12_gainOf.1.2.1 38 = .ok (.iload_n 3, 1) := by decide +kernel
theorem rd_d_X12_gainOf_39 : decode tX12_gainOf.1.2.1 39 = .ok (.aload_n 0, 1) := by decide +kernel
theorem rd_d_X12_gainOf_40 : decode tX12_gainOf.1.2.1 40 = .ok (.getfield 33, 3) := by decide +kernel
theorem rd_k_X12_gainOf_40 : ex_lk ex_mt tX12_gainOf 40 (.getfield 33) [12, 6, 2, 458773] = true := by decide +kernel
theorem rd_d_X12_gainOf_43 : decode tX12_gainOf.1.2.1 43 = .ok (.bipush 12, 2) := by decide +kernel
theorem rd_d_X12_gainOf_45 : decode tX12_gainOf.1.2.1 45 = .ok (.iload_n 1, 1) := by decide +kernel
theorem rd_d_X12_gainOf_46 : decode tX12_gainOf.1.2.1 46 = .ok (.iadd, 1) := by decide +kernel
theorem rd_d_X12_gainOf_47 : decode tX12_gainOf.1.2.1 47 = .ok (.iaload, 1) := by decide +kernel
theorem rd_d_X12_gainOf_48 : decode tX12_gainOf.1.2.1 48 = .ok (.iadd, 1) := by decide +kernel
theorem rd_d_X12_gainOf_49 : decode tX12_gainOf.1.2.1 49 = .ok (.invokevirtual 276, 3) := by decide +kernel
theorem rd_k_X12_gainOf_49 : ex_lk ex_mt tX12_gainOf 49 (.invokevirtual 276) [0, 172, 524429] = true := by decide +kernel
theorem rd_d_X12_gainOf_52 : decode tX12_gainOf.1.2.1 52 = .ok (.istore 5, 2) := by decide +kernel
theorem rd_d_X12_gainOf_54 : decode tX12_gainOf.1.2.1 54 = .ok (.aload_n 0, 1) := by decide +kernel
theorem rd_d_X12_gainOf_55 : decode tX12_gainOf.1.2.1 55 = .ok (.getfield 33, 3) := by decide +kernel
theorem rd_k_X12_gainOf_55 : ex_lk ex_mt tX12_gainOf 55 (.getfield 33) [12, 6, 2, 458773] = true := by decide +kernel
theorem rd_d_X12_gainOf_58 : decode tX12_gainOf.1.2.1 58 = .ok (.iconst 2, 1) := by decide +kernel
theorem rd_d_X12_gainOf_59 : decode tX12_gainOf.1.2.1 59 = .ok (.iload_n 1, 1) := by decide +kernel
theorem rd_d_X12_gainOf_60 : decode tX12_gainOf.1.2.1 60 = .ok (.iadd, 1) := by decide +kernel
theorem rd_d_X12_gainOf_61 : decode tX12_gainOf.1.2.1 61 = .ok (.iaload, 1) := by decide +kernel
theorem rd_d_X12_gainOf_62 : decode tX12_gainOf.1.2.1 62 = .ok (.bipush 12, 2) := by decide +kernel
theorem rd_d_X12_gainOf_64 : decode tX12_gainOf.1.2.1 64 = .ok (.iload 5, 2) := by decide +kernel
theorem rd_d_X12_gainOf_66 : decode tX12_gainOf.1.2.1 66 = .ok (.imul, 1) := by decide +kernel
theorem rd_d_X12_gainOf_67 : decode tX12_gainOf.1.2.1 67 = .ok (.aload_n 0, 1) := by decide +kernel
theorem rd_d_X12_gainOf_68 : decode tX12_gainOf.1.2.1 68 = .ok (.getfield 33, 3) := by decide +kernel
theorem rd_k_X12_gainOf_68 : ex_lk ex_mt tX12_gainOf 68 (.getfield 33) [12, 6, 2, 458773] = true := by decide +kernel
theorem rd_d_X12_gainOf_71 : decode tX12_gainOf.1.2.1 71 = .ok (.bipush 56, 2) := by decide +kernel
theorem rd_d_X12_gainOf_73 : decode tX12_gainOf.1.2.1 73 = .ok (.iaload, 1) := by decide +kernel
theorem rd_d_X12_gainOf_74 : decode tX12_gainOf.1.2.1 74 = .ok (.iload 4, 2) := by decide +kernel
theorem rd_d_X12_gainOf_76 : decode tX12_gainOf.1.2.1 76 = .ok (.iload 5, 2) := by decide +kernel
theorem rd_d_X12_gainOf_78 : decode tX12_gainOf.1.2.1 78 = .ok (.isub, 1) := by decide +kernel
theorem rd_d_X12_gainOf_79 : decode tX12_gainOf.1.2.1 79 = .ok (.imul, 1) := by decide +kernel
theorem rd_d_X12_gainOf_80 : decode tX12_gainOf.1.2.1 80 = .ok (.iadd, 1) := by decide +kernel
theorem rd_d_X12_gainOf_81 : decode tX12_gainOf.1.2.1 81 = .ok (.imul, 1) := by decide +kernel
theorem rd_d_X12_gainOf_82 : decode tX12_gainOf.1.2.1 82 = .ok (.ireturn, 1) := by decide +kernel
theorem rd_d_X9_betterWay_0 : decode tX9_betterWay.1.2.1 0 = .ok (.aload_n 0, 1) := by decide +kernel
theorem rd_d_X9_betterWay_1 : decode tX9_betterWay.1.2.1 1 = .ok (.iload_n 1, 1) := by decide +kernel
theorem rd_d_X9_betterWay_2 : decode tX9_betterWay.1.2.1 2 = .ok (.iconst 1, 1) := by decide +kernel
theorem rd_d_X9_betterWay_3 : decode tX9_betterWay.1.2.1 3 = .ok (.iload_n 2, 1) := by decide +kernel
theorem rd_d_X9_betterWay_4 : decode tX9_betterWay.1.2.1 4 = .ok (.invokevirtual 164, 3) := by decide +kernel
theorem rd_k_X9_betterWay_4 : ex_lk ex_mt tX9_betterWay 4 (.invokevirtual 164) [0, 292, 262285] = true := by decide +kernel
theorem rd_d_X9_betterWay_7 : decode tX9_betterWay.1.2.1 7 = .ok (.aload_n 0, 1) := by decide +kernel
theorem rd_d_X9_betterWay_8 : decode tX9_betterWay.1.2.1 8 = .ok (.iload_n 1, 1) := by decide +kernel
theorem rd_d_X9_betterWay_9 : decode tX9_betterWay.1.2.1 9 = .ok (.iconst 0, 1) := by decide +kernel
theorem rd_d_X9_betterWay_10 : decode tX9_betterWay.1.2.1 10 = .ok (.iload_n 2, 1) := by decide +kernel
theorem rd_d_X9_betterWay_11 : decode tX9_betterWay.1.2.1 11 = .ok (.invokevirtual 164, 3) := by decide +kernel
theorem rd_k_X9_betterWay_11 : ex_lk ex_mt tX9_betterWay 11 (.invokevirtual 164) [0, 292, 262285] = true := by decide +kernel
theorem rd_d_X9_betterWay_14 : decode tX9_betterWay.1.2.1 14 = .ok (.if_icmp .le 7, 3) := by decide +kernel
theorem rd_d_X9_betterWay_17 : decode tX9_betterWay.1.2.1 17 = .ok (.iconst 1, 1) := by decide +kernel
theorem rd_d_X9_betterWay_18 : decode tX9_betterWay.1.2.1 18 = .ok (.goto 4, 3) := by decide +kernel
theorem rd_d_X9_betterWay_21 : decode tX9_betterWay.1.2.1 21 = .ok (.iconst 0, 1) := by decide +kernel
theorem rd_d_X9_betterWay_22 : decode tX9_betterWay.1.2.1 22 = .ok (.ireturn, 1) := by decide +kernel
theorem rd_d_X12_betterOf_0 : decode tX12_betterOf.1.2.1 0 = .ok (.aload_n 0, 1) := by decide +kernel
theorem rd_d_X12_betterOf_1 : decode tX12_betterOf.1.2.1 1 = .ok (.iload_n 1, 1) := by decide +kernel
theorem rd_d_X12_betterOf_2 : decode tX12_betterOf.1.2.1 2 = .ok (.iconst 1, 1) := by decide +kernel
theorem rd_d_X12_betterOf_3 : decode tX12_betterOf.1.2.1 3 = .ok (.iload_n 2, 1) := by decide +kernel
theorem rd_d_X12_betterOf_4 : decode tX12_betterOf.1.2.1 4 = .ok (.invokevirtual 279, 3) := by decide +kernel
theorem rd_k_X12_betterOf_4 : ex_lk ex_mt tX12_betterOf 4 (.invokevirtual 279) [0, 110, 524425] = true := by decide +kernel
theorem rd_d_X12_betterOf_7 : decode tX12_betterOf.1.2.1 7 = .ok (.aload_n 0, 1) := by decide +kernel
theorem rd_d_X12_betterOf_8 : decode tX12_betterOf.1.2.1 8 = .ok (.iload_n 1, 1) := by decide +kernel
theorem rd_d_X12_betterOf_9 : decode tX12_betterOf.1.2.1 9 = .ok (.iconst 0, 1) := by decide +kernel
theorem rd_d_X12_betterOf_10 : decode tX12_betterOf.1.2.1 10 = .ok (.iload_n 2, 1) := by decide +kernel
theorem rd_d_X12_betterOf_11 : decode tX12_betterOf.1.2.1 11 = .ok (.invokevirtual 279, 3) := by decide +kernel
theorem rd_k_X12_betterOf_11 : ex_lk ex_mt tX12_betterOf 11 (.invokevirtual 279) [0, 110, 524425] = true := by decide +kernel
theorem rd_d_X12_betterOf_14 : decode tX12_betterOf.1.2.1 14 = .ok (.if_icmp .le 7, 3) := by decide +kernel
theorem rd_d_X12_betterOf_17 : decode tX12_betterOf.1.2.1 17 = .ok (.iconst 1, 1) := by decide +kernel
theorem rd_d_X12_betterOf_18 : decode tX12_betterOf.1.2.1 18 = .ok (.goto 4, 3) := by decide +kernel
theorem rd_d_X12_betterOf_21 : decode tX12_betterOf.1.2.1 21 = .ok (.iconst 0, 1) := by decide +kernel
theorem rd_d_X12_betterOf_22 : decode tX12_betterOf.1.2.1 22 = .ok (.ireturn, 1) := by decide +kernel
theorem rd_d_X9_betterGain_0 : decode tX9_betterGain.1.2.1 0 = .ok (.aload_n 0, 1) := by decide +kernel
theorem rd_d_X9_betterGain_1 : decode tX9_betterGain.1.2.1 1 = .ok (.iload_n 1, 1) := by decide +kernel
theorem rd_d_X9_betterGain_2 : decode tX9_betterGain.1.2.1 2 = .ok (.iconst 0, 1) := by decide +kernel
theorem rd_d_X9_betterGain_3 : decode tX9_betterGain.1.2.1 3 = .ok (.iload_n 2, 1) := by decide +kernel
theorem rd_d_X9_betterGain_4 : decode tX9_betterGain.1.2.1 4 = .ok (.invokevirtual 164, 3) := by decide +kernel
theorem rd_k_X9_betterGain_4 : ex_lk ex_mt tX9_betterGain 4 (.invokevirtual 164) [0, 292, 262285] = true := by decide +kernel
theorem rd_d_X9_betterGain_7 : decode tX9_betterGain.1.2.1 7 = .ok (.aload_n 0, 1) := by decide +kernel
theorem rd_d_X9_betterGain_8 : decode tX9_betterGain.1.2.1 8 = .ok (.iload_n 1, 1) := by decide +kernel
theorem rd_d_X9_betterGain_9 : decode tX9_betterGain.1.2.1 9 = .ok (.iconst 1, 1) := by decide +kernel
theorem rd_d_X9_betterGain_10 : decode tX9_betterGain.1.2.1 10 = .ok (.iload_n 2, 1) := by decide +kernel
theorem rd_d_X9_betterGain_11 : decode tX9_betterGain.1.2.1 11 = .ok (.invokevirtual 164, 3) := by decide +kernel
theorem rd_k_X9_betterGain_11 : ex_lk ex_mt tX9_betterGain 11 (.invokevirtual 164) [0, 292, 262285] = true := by decide +kernel
theorem rd_d_X9_betterGain_14 : decode tX9_betterGain.1.2.1 14 = .ok (.invokestatic 128, 3) := by decide +kernel
theorem rd_k_X9_betterGain_14 : ex_lk ex_mt tX9_betterGain 14 (.invokestatic 128) [1, 0, 262271, 0] = true := by decide +kernel
theorem rd_d_X9_betterGain_17 : decode tX9_betterGain.1.2.1 17 = .ok (.ireturn, 1) := by decide +kernel
theorem rd_d_X12_mostAt_0 : decode tX12_mostAt.1.2.1 0 = .ok (.aload_n 0, 1) := by decide +kernel
theorem rd_d_X12_mostAt_1 : decode tX12_mostAt.1.2.1 1 = .ok (.iload_n 1, 1) := by decide +kernel
theorem rd_d_X12_mostAt_2 : decode tX12_mostAt.1.2.1 2 = .ok (.iconst 0, 1) := by decide +kernel
theorem rd_d_X12_mostAt_3 : decode tX12_mostAt.1.2.1 3 = .ok (.iload_n 2, 1) := by decide +kernel
theorem rd_d_X12_mostAt_4 : decode tX12_mostAt.1.2.1 4 = .ok (.invokevirtual 279, 3) := by decide +kernel
theorem rd_k_X12_mostAt_4 : ex_lk ex_mt tX12_mostAt 4 (.invokevirtual 279) [0, 110, 524425] = true := by decide +kernel
theorem rd_d_X12_mostAt_7 : decode tX12_mostAt.1.2.1 7 = .ok (.aload_n 0, 1) := by decide +kernel
theorem rd_d_X12_mostAt_8 : decode tX12_mostAt.1.2.1 8 = .ok (.iload_n 1, 1) := by decide +kernel
theorem rd_d_X12_mostAt_9 : decode tX12_mostAt.1.2.1 9 = .ok (.iconst 1, 1) := by decide +kernel
theorem rd_d_X12_mostAt_10 : decode tX12_mostAt.1.2.1 10 = .ok (.iload_n 2, 1) := by decide +kernel
theorem rd_d_X12_mostAt_11 : decode tX12_mostAt.1.2.1 11 = .ok (.invokevirtual 279, 3) := by decide +kernel
theorem rd_k_X12_mostAt_11 : ex_lk ex_mt tX12_mostAt 11 (.invokevirtual 279) [0, 110, 524425] = true := by decide +kernel
theorem rd_d_X12_mostAt_14 : decode tX12_mostAt.1.2.1 14 = .ok (.invokestatic 201, 3) := by decide +kernel
theorem rd_k_X12_mostAt_14 : ex_lk ex_mt tX12_mostAt 14 (.invokestatic 201) [0, 111, 524303] = true := by decide +kernel
theorem rd_d_X12_mostAt_17 : decode tX12_mostAt.1.2.1 17 = .ok (.ireturn, 1) := by decide +kernel
theorem rd_d_X12_lesser_0 : decode tX12_lesser.1.2.1 0 = .ok (.iload_n 0, 1) := by decide +kernel
theorem rd_d_X12_lesser_1 : decode tX12_lesser.1.2.1 1 = .ok (.iload_n 1, 1) := by decide +kernel
theorem rd_d_X12_lesser_2 : decode tX12_lesser.1.2.1 2 = .ok (.if_icmp .ge 7, 3) := by decide +kernel
theorem rd_d_X12_lesser_5 : decode tX12_lesser.1.2.1 5 = .ok (.iload_n 0, 1) := by decide +kernel
theorem rd_d_X12_lesser_6 : decode tX12_lesser.1.2.1 6 = .ok (.goto 4, 3) := by decide +kernel
theorem rd_d_X12_lesser_9 : decode tX12_lesser.1.2.1 9 = .ok (.iload_n 1, 1) := by decide +kernel
theorem rd_d_X12_lesser_10 : decode tX12_lesser.1.2.1 10 = .ok (.ireturn, 1) := by decide +kernel
theorem rd_d_X12_cell_0 : decode tX12_cell.1.2.1 0 = .ok (.bipush 25, 2) := by decide +kernel
theorem rd_d_X12_cell_2 : decode tX12_cell.1.2.1 2 = .ok (.bipush 62, 2) := by decide +kernel
theorem rd_d_X12_cell_4 : decode tX12_cell.1.2.1 4 = .ok (.iload_n 0, 1) := by decide +kernel
theorem rd_d_X12_cell_5 : decode tX12_cell.1.2.1 5 = .ok (.imul, 1) := by decide +kernel
theorem rd_d_X12_cell_6 : decode tX12_cell.1.2.1 6 = .ok (.iload_n 1, 1) := by decide +kernel
theorem rd_d_X12_cell_7 : decode tX12_cell.1.2.1 7 = .ok (.iadd, 1) := by decide +kernel
theorem rd_d_X12_cell_8 : decode tX12_cell.1.2.1 8 = .ok (.imul, 1) := by decide +kernel
theorem rd_d_X12_cell_9 : decode tX12_cell.1.2.1 9 = .ok (.iload_n 2, 1) := by decide +kernel
theorem rd_d_X12_cell_10 : decode tX12_cell.1.2.1 10 = .ok (.iadd, 1) := by decide +kernel
theorem rd_d_X12_cell_11 : decode tX12_cell.1.2.1 11 = .ok (.ireturn, 1) := by decide +kernel
theorem rd_d_X12_clipped_0 : decode tX12_clipped.1.2.1 0 = .ok (.bipush 61, 2) := by decide +kernel
theorem rd_d_X12_clipped_2 : decode tX12_clipped.1.2.1 2 = .ok (.iload_n 0, 1) := by decide +kernel
theorem rd_d_X12_clipped_3 : decode tX12_clipped.1.2.1 3 = .ok (.invokestatic 228, 3) := by decide +kernel
theorem rd_k_X12_clipped_3 : ex_lk ex_mt tX12_clipped 3 (.invokestatic 228) [0, 131, 524375] = true := by decide +kernel
theorem rd_d_X12_clipped_6 : decode tX12_clipped.1.2.1 6 = .ok (.ireturn, 1) := by decide +kernel
theorem rd_d_X12_chooses_0 : decode tX12_chooses.1.2.1 0 = .ok (.iconst (-1), 1) := by decide +kernel
theorem rd_d_X12_chooses_1 : decode tX12_chooses.1.2.1 1 = .ok (.istore 6, 2) := by decide +kernel
theorem rd_d_X12_chooses_3 : decode tX12_chooses.1.2.1 3 = .ok (.iconst 0, 1) := by decide +kernel
theorem rd_d_X12_chooses_4 : decode tX12_chooses.1.2.1 4 = .ok (.istore 7, 2) := by decide +kernel
theorem rd_d_X12_chooses_6 : decode tX12_chooses.1.2.1 6 = .ok (.iconst 0, 1) := by decide +kernel
theorem rd_d_X12_chooses_7 : decode tX12_chooses.1.2.1 7 = .ok (.istore 8, 2) := by decide +kernel
theorem rd_d_X12_chooses_9 : decode tX12_chooses.1.2.1 9 = .ok (.iconst 0, 1) := by decide +kernel
theorem rd_d_X12_chooses_10 : decode tX12_chooses.1.2.1 10 = .ok (.istore 9, 2) := by decide +kernel
theorem rd_d_X12_chooses_12 : decode tX12_chooses.1.2.1 12 = .ok (.iload 9, 2) := by decide +kernel
theorem rd_d_X12_chooses_14 : decode tX12_chooses.1.2.1 14 = .ok (.iload 4, 2) := by decide +kernel
theorem rd_d_X12_chooses_16 : decode tX12_chooses.1.2.1 16 = .ok (.aload_n 0, 1) := by decide +kernel
theorem rd_d_X12_chooses_17 : decode tX12_chooses.1.2.1 17 = .ok (.getfield 33, 3) := by decide +kernel
theorem rd_k_X12_chooses_17 : ex_lk ex_mt tX12_chooses 17 (.getfield 33) [12, 6, 2, 458773] = true := by decide +kernel
theorem rd_d_X12_chooses_20 : decode tX12_chooses.1.2.1 20 = .ok (.bipush 22, 2) := by decide +kernel
theorem rd_d_X12_chooses_22 : decode tX12_chooses.1.2.1 22 = .ok (.iload_n 2, 1) := by decide +kernel
theorem rd_d_X12_chooses_23 : decode tX12_chooses.1.2.1 23 = .ok (.iadd, 1) := by decide +kernel
theorem rd_d_X12_chooses_24 : decode tX12_chooses.1.2.1 24 = .ok (.iaload, 1) := by decide +kernel
theorem rd_d_X12_chooses_25 : decode tX12_chooses.1.2.1 25 = .ok (.invokestatic 228, 3) := by decide +kernel
theorem rd_k_X12_chooses_25 : ex_lk ex_mt tX12_chooses 25 (.invokestatic 228) [0, 131, 524375] = true := by decide +kernel
theorem rd_d_X12_chooses_28 : decode tX12_chooses.1.2.1 28 = .ok (.if_icmp .gt 134, 3) := by decide +kernel
theorem rd_d_X12_chooses_31 : decode tX12_chooses.1.2.1 31 = .ok (.iload_n 3, 1) := by decide +kernel
theorem rd_d_X12_chooses_32 : decode tX12_chooses.1.2.1 32 = .ok (.iload 9, 2) := by decide +kernel
theorem rd_d_X12_chooses_34 : decode tX12_chooses.1.2.1 34 = .ok (.aload_n 0, 1) := by decide +kernel
theorem rd_d_X12_chooses_35 : decode tX12_chooses.1.2.1 35 = .ok (.getfield 33, 3) := by decide +kernel
theorem rd_k_X12_chooses_35 : ex_lk ex_mt tX12_chooses 35 (.getfield 33) [12, 6, 2, 458773] = true := by decide +kernel
theorem rd_d_X12_chooses_38 : decode tX12_chooses.1.2.1 38 = .ok (.bipush 12, 2) := by decide +kernel
theorem rd_d_X12_chooses_40 : decode tX12_chooses.1.2.1 40 = .ok (.iload_n 2, 1) := by decide +kernel
theorem rd_d_X12_chooses_41 : decode tX12_chooses.1.2.1 41 = .ok (.iadd, 1) := by decide +kernel
theorem rd_d_X12_chooses_42 : decode tX12_chooses.1.2.1 42 = .ok (.iaload, 1) := by decide +kernel
theorem rd_d_X12_chooses_43 : decode tX12_chooses.1.2.1 43 = .ok (.imul, 1) := by decide +kernel
theorem rd_d_X12_chooses_44 : decode tX12_chooses.1.2.1 44 = .ok (.iadd, 1) := by decide +kernel
theorem rd_d_X12_chooses_45 : decode tX12_chooses.1.2.1 45 = .ok (.istore 10, 2) := by decide +kernel
theorem rd_d_X12_chooses_47 : decode tX12_chooses.1.2.1 47 = .ok (.iload 9, 2) := by decide +kernel
theorem rd_d_X12_chooses_49 : decode tX12_chooses.1.2.1 49 = .ok (.ifCond .le 46, 3) := by decide +kernel
theorem rd_d_X12_chooses_52 : decode tX12_chooses.1.2.1 52 = .ok (.iload 8, 2) := by decide +kernel
theorem rd_d_X12_chooses_54 : decode tX12_chooses.1.2.1 54 = .ok (.iload 10, 2) := by decide +kernel
theorem rd_d_X12_chooses_56 : decode tX12_chooses.1.2.1 56 = .ok (.aload_n 0, 1) := by decide +kernel
theorem rd_d_X12_chooses_57 : decode tX12_chooses.1.2.1 57 = .ok (.getfield 33, 3) := by decide +kernel
theorem rd_k_X12_chooses_57 : ex_lk ex_mt tX12_chooses 57 (.getfield 33) [12, 6, 2, 458773] = true := by decide +kernel
theorem rd_d_X12_chooses_60 : decode tX12_chooses.1.2.1 60 = .ok (.bipush 12, 2) := by decide +kernel
theorem rd_d_X12_chooses_62 : decode tX12_chooses.1.2.1 62 = .ok (.iload_n 2, 1) := by decide +kernel
theorem rd_d_X12_chooses_63 : decode tX12_chooses.1.2.1 63 = .ok (.iadd, 1) := by decide +kernel
theorem rd_d_X12_chooses_64 : decode tX12_chooses.1.2.1 64 = .ok (.iaload, 1) := by decide +kernel
theorem rd_d_X12_chooses_65 : decode tX12_chooses.1.2.1 65 = .ok (.isub, 1) := by decide +kernel
theorem rd_d_X12_chooses_66 : decode tX12_chooses.1.2.1 66 = .ok (.bipush 61, 2) := by decide +kernel
theorem rd_d_X12_chooses_68 : decode tX12_chooses.1.2.1 68 = .ok (.if_icmp .ge 23, 3) := by decide +kernel
theorem rd_d_X12_chooses_71 : decode tX12_chooses.1.2.1 71 = .ok (.aload_n 0, 1) := by decide +kernel
theorem rd_d_X12_chooses_72 : decode tX12_chooses.1.2.1 72 = .ok (.iload_n 2, 1) := by decide +kernel
theorem rd_d_X12_chooses_73 : decode tX12_chooses.1.2.1 73 = .ok (.iload 10, 2) := by decide +kernel
theorem rd_d_X12_chooses_75 : decode tX12_chooses.1.2.1 75 = .ok (.aload_n 0, 1) := by decide +kernel
theorem rd_d_X12_chooses_76 : decode tX12_chooses.1.2.1 76 = .ok (.getfield 33, 3) := by decide +kernel
theorem rd_k_X12_chooses_76 : ex_lk ex_mt tX12_chooses 76 (.getfield 33) [12, 6, 2, 458773] = true := by decide +kernel
theorem rd_d_X12_chooses_79 : decode tX12_chooses.1.2.1 79 = .ok (.bipush 12, 2) := by decide +kernel
theorem rd_d_X12_chooses_81 : decode tX12_chooses.1.2.1 81 = .ok (.iload_n 2, 1) := by decide +kernel
theorem rd_d_X12_chooses_82 : decode tX12_chooses.1.2.1 82 = .ok (.iadd, 1) := by decide +kernel
theorem rd_d_X12_chooses_83 : decode tX12_chooses.1.2.1 83 = .ok (.iaload, 1) := by decide +kernel
theorem rd_d_X12_chooses_84 : decode tX12_chooses.1.2.1 84 = .ok (.isub, 1) := by decide +kernel
theorem rd_d_X12_chooses_85 : decode tX12_chooses.1.2.1 85 = .ok (.invokevirtual 295, 3) := by decide +kernel
theorem rd_k_X12_chooses_85 : ex_lk ex_mt tX12_chooses 85 (.invokevirtual 295) [0, 138, 524472] = true := by decide +kernel
theorem rd_d_X12_chooses_88 : decode tX12_chooses.1.2.1 88 = .ok (.goto 4, 3) := by decide +kernel
theorem rd_d_X12_chooses_91 : decode tX12_chooses.1.2.1 91 = .ok (.iconst 0, 1) := by decide +kernel
theorem rd_d_X12_chooses_92 : decode tX12_chooses.1.2.1 92 = .ok (.iadd, 1) := by decide +kernel
theorem rd_d_X12_chooses_93 : decode tX12_chooses.1.2.1 93 = .ok (.istore 8, 2) := by decide +kernel
theorem rd_d_X12_chooses_95 : decode tX12_chooses.1.2.1 95 = .ok (.iload 8, 2) := by decide +kernel
theorem rd_d_X12_chooses_97 : decode tX12_chooses.1.2.1 97 = .ok (.iload 5, 2) := by decide +kernel
theorem rd_d_X12_chooses_99 : decode tX12_chooses.1.2.1 99 = .ok (.ifCond .eq 7, 3) := by decide +kernel
theorem rd_d_X12_chooses_102 : decode tX12_chooses.1.2.1 102 = .ok (.iconst 0, 1) := by decide +kernel
theorem rd_d_X12_chooses_103 : decode tX12_chooses.1.2.1 103 = .ok (.goto 32, 3) := by decide +kernel
theorem rd_d_X12_chooses_106 : decode tX12_chooses.1.2.1 106 = .ok (.aload_n 0, 1) := by decide +kernel
theorem rd_d_X12_chooses_107 : decode tX12_chooses.1.2.1 107 = .ok (.getfield 49, 3) := by decide +kernel
theorem rd_k_X12_chooses_107 : ex_lk ex_mt tX12_chooses 107 (.getfield 49) [12, 22, 2, 458789] = true := by decide +kernel
theorem rd_d_X12_chooses_110 : decode tX12_chooses.1.2.1 110 = .ok (.iload_n 1, 1) := by decide +kernel
theorem rd_d_X12_chooses_111 : decode tX12_chooses.1.2.1 111 = .ok (.iconst 1, 1) := by decide +kernel
theorem rd_d_X12_chooses_112 : decode tX12_chooses.1.2.1 112 = .ok (.iadd, 1) := by decide +kernel
theorem rd_d_X12_chooses_113 : decode tX12_chooses.1.2.1 113 = .ok (.iload 10, 2) := by decide +kernel
theorem rd_d_X12_chooses_115 : decode tX12_chooses.1.2.1 115 = .ok (.aload_n 0, 1) := by decide +kernel
theorem rd_d_X12_chooses_116 : decode tX12_chooses.1.2.1 116 = .ok (.getfield 33, 3) := by decide +kernel
theorem rd_k_X12_chooses_116 : ex_lk ex_mt tX12_chooses 116 (.getfield 33) [12, 6, 2, 458773] = true := by decide +kernel
theorem rd_d_X12_chooses_119 : decode tX12_chooses.1.2.1 119 = .ok (.bipush 54, 2) := by decide +kernel
theorem rd_d_X12_chooses_121 : decode tX12_chooses.1.2.1 121 = .ok (.iaload, 1) := by decide +kernel
theorem rd_d_X12_chooses_122 : decode tX12_chooses.1.2.1 122 = .ok (.iadd, 1) := by decide +kernel
theorem rd_d_X12_chooses_123 : decode tX12_chooses.1.2.1 123 = .ok (.invokestatic 298, 3) := by decide +kernel
theorem rd_k_X12_chooses_123 : ex_lk ex_mt tX12_chooses 123 (.invokestatic 298) [0, 90, 524476] = true := by decide +kernel
theorem rd_d_X12_chooses_126 : decode tX12_chooses.1.2.1 126 = .ok (.iload 4, 2) := by decide +kernel
theorem rd_d_X12_chooses_128 : decode tX12_chooses.1.2.1 128 = .ok (.iload 9, 2) := by decide +kernel
theorem rd_d_X12_chooses_130 : decode tX12_chooses.1.2.1 130 = .ok (.isub, 1) := by decide +kernel
theorem rd_d_X12_chooses_131 : decode tX12_chooses.1.2.1 131 = .ok (.invokestatic 301, 3) := by decide +kernel
theorem rd_k_X12_chooses_131 : ex_lk ex_mt tX12_chooses 131 (.invokestatic 301) [0, 86, 524479] = true := by decide +kernel
theorem rd_d_X12_chooses_134 : decode tX12_chooses.1.2.1 134 = .ok (.iaload, 1) := by decide +kernel
theorem rd_d_X12_chooses_135 : decode tX12_chooses.1.2.1 135 = .ok (.iadd, 1) := by decide +kernel
theorem rd_d_X12_chooses_136 : decode tX12_chooses.1.2.1 136 = .ok (.istore 11, 2) := by decide +kernel
theorem rd_d_X12_chooses_138 : decode tX12_chooses.1.2.1 138 = .ok (.iload 11, 2) := by decide +kernel
theorem rd_d_X12_chooses_140 : decode tX12_chooses.1.2.1 140 = .ok (.iload 6, 2) := by decide +kernel
theorem rd_d_X12_chooses_142 : decode tX12_chooses.1.2.1 142 = .ok (.if_icmp .gt 6, 3) := by decide +kernel
theorem rd_d_X12_chooses_145 : decode tX12_chooses.1.2.1 145 = .ok (.goto 11, 3) := by decide +kernel
theorem rd_d_X12_chooses_148 : decode tX12_chooses.1.2.1 148 = .ok (.iload 11, 2) := by decide +kernel
theorem rd_d_X12_chooses_150 : decode tX12_chooses.1.2.1 150 = .ok (.istore 6, 2) := by decide +kernel
theorem rd_d_X12_chooses_152 : decode tX12_chooses.1.2.1 152 = .ok (.iload 9, 2) := by decide +kernel
theorem rd_d_X12_chooses_154 : decode tX12_chooses.1.2.1 154 = .ok (.istore 7, 2) := by decide +kernel
theorem rd_d_X12_chooses_156 : decode tX12_chooses.1.2.1 156 = .ok (.iinc 9 1, 3) := by decide +kernel
theorem rd_d_X12_chooses_159 : decode tX12_chooses.1.2.1 159 = .ok (.goto (-147), 3) := by decide +kernel
theorem rd_d_X12_chooses_162 : decode tX12_chooses.1.2.1 162 = .ok (.aload_n 0, 1) := by decide +kernel
theorem rd_d_X12_chooses_163 : decode tX12_chooses.1.2.1 163 = .ok (.getfield 49, 3) := by decide +kernel
theorem rd_k_X12_chooses_163 : ex_lk ex_mt tX12_chooses 163 (.getfield 49) [12, 22, 2, 458789] = true := by decide +kernel
theorem rd_d_X12_chooses_166 : decode tX12_chooses.1.2.1 166 = .ok (.iload_n 1, 1) := by decide +kernel
theorem rd_d_X12_chooses_167 : decode tX12_chooses.1.2.1 167 = .ok (.iload_n 3, 1) := by decide +kernel
theorem rd_d_X12_chooses_168 : decode tX12_chooses.1.2.1 168 = .ok (.iload 4, 2) := by decide +kernel
theorem rd_d_X12_chooses_170 : decode tX12_chooses.1.2.1 170 = .ok (.invokestatic 301, 3) := by decide +kernel
theorem rd_k_X12_chooses_170 : ex_lk ex_mt tX12_chooses 170 (.invokestatic 301) [0, 86, 524479] = true := by decide +kernel
theorem rd_d_X12_chooses_173 : decode tX12_chooses.1.2.1 173 = .ok (.iload 6, 2) := by decide +kernel
theorem rd_d_X12_chooses_175 : decode tX12_chooses.1.2.1 175 = .ok (.iastore, 1) := by decide +kernel
theorem rd_d_X12_chooses_176 : decode tX12_chooses.1.2.1 176 = .ok (.aload_n 0, 1) := by decide +kernel
theorem rd_d_X12_chooses_177 : decode tX12_chooses.1.2.1 177 = .ok (.getfield 52, 3) := by decide +kernel
theorem rd_k_X12_chooses_177 : ex_lk ex_mt tX12_chooses 177 (.getfield 52) [12, 23, 2, 458790] = true := by decide +kernel
theorem rd_d_X12_chooses_180 : decode tX12_chooses.1.2.1 180 = .ok (.iload_n 1, 1) := by decide +kernel
theorem rd_d_X12_chooses_181 : decode tX12_chooses.1.2.1 181 = .ok (.iload_n 3, 1) := by decide +kernel
theorem rd_d_X12_chooses_182 : decode tX12_chooses.1.2.1 182 = .ok (.iload 4, 2) := by decide +kernel
theorem rd_d_X12_chooses_184 : decode tX12_chooses.1.2.1 184 = .ok (.invokestatic 301, 3) := by decide +kernel
theorem rd_k_X12_chooses_184 : ex_lk ex_mt tX12_chooses 184 (.invokestatic 301) [0, 86, 524479] = true := by decide +kernel
theorem rd_d_X12_chooses_187 : decode tX12_chooses.1.2.1 187 = .ok (.iload 7, 2) := by decide +kernel
theorem rd_d_X12_chooses_189 : decode tX12_chooses.1.2.1 189 = .ok (.iastore, 1) := by decide +kernel
theorem rd_d_X12_chooses_190 : decode tX12_chooses.1.2.1 190 = .ok (.return_, 1) := by decide +kernel
theorem rd_d_X12_plans_0 : decode tX12_plans.1.2.1 0 = .ok (.iload_n 1, 1) := by decide +kernel
theorem rd_d_X12_plans_1 : decode tX12_plans.1.2.1 1 = .ok (.iload_n 2, 1) := by decide +kernel
theorem rd_d_X12_plans_2 : decode tX12_plans.1.2.1 2 = .ok (.if_icmp .gt 7, 3) := by decide +kernel
theorem rd_d_X12_plans_5 : decode tX12_plans.1.2.1 5 = .ok (.iconst 1, 1) := by decide +kernel
theorem rd_d_X12_plans_6 : decode tX12_plans.1.2.1 6 = .ok (.goto 4, 3) := by decide +kernel
theorem rd_d_X12_plans_9 : decode tX12_plans.1.2.1 9 = .ok (.iconst (-1), 1) := by decide +kernel
theorem rd_d_X12_plans_10 : decode tX12_plans.1.2.1 10 = .ok (.istore 4, 2) := by decide +kernel
theorem rd_d_X12_plans_12 : decode tX12_plans.1.2.1 12 = .ok (.iload_n 1, 1) := by decide +kernel
theorem rd_d_X12_plans_13 : decode tX12_plans.1.2.1 13 = .ok (.iload_n 2, 1) := by decide +kernel
theorem rd_d_X12_plans_14 : decode tX12_plans.1.2.1 14 = .ok (.invokestatic 288, 3) := by decide +kernel
theorem rd_k_X12_plans_14 : ex_lk ex_mt tX12_plans 14 (.invokestatic 288) [0, 145, 524465] = true := by decide +kernel
theorem rd_d_X12_plans_17 : decode tX12_plans.1.2.1 17 = .ok (.iconst 1, 1) := by decide +kernel
theorem rd_d_X12_plans_18 : decode tX12_plans.1.2.1 18 = .ok (.iadd, 1) := by decide +kernel
theorem rd_d_X12_plans_19 : decode tX12_plans.1.2.1 19 = .ok (.istore 5, 2) := by decide +kernel
theorem rd_d_X12_plans_21 : decode tX12_plans.1.2.1 21 = .ok (.iload 5, 2) := by decide +kernel
theorem rd_d_X12_plans_23 : decode tX12_plans.1.2.1 23 = .ok (.iconst 1, 1) := by decide +kernel
theorem rd_d_X12_plans_24 : decode tX12_plans.1.2.1 24 = .ok (.isub, 1) := by decide +kernel
theorem rd_d_X12_plans_25 : decode tX12_plans.1.2.1 25 = .ok (.istore 6, 2) := by decide +kernel
theorem rd_d_X12_plans_27 : decode tX12_plans.1.2.1 27 = .ok (.iload 6, 2) := by decide +kernel
theorem rd_d_X12_plans_29 : decode tX12_plans.1.2.1 29 = .ok (.ifCond .lt 75, 3) := by decide +kernel
theorem rd_d_X12_plans_32 : decode tX12_plans.1.2.1 32 = .ok (.iload_n 1, 1) := by decide +kernel
theorem rd_d_X12_plans_33 : decode tX12_plans.1.2.1 33 = .ok (.iload 4, 2) := by decide +kernel
theorem rd_d_X12_plans_35 : decode tX12_plans.1.2.1 35 = .ok (.iload 6, 2) := by decide +kernel
theorem rd_d_X12_plans_37 : decode tX12_plans.1.2.1 37 = .ok (.imul, 1) := by decide +kernel
theorem rd_d_X12_plans_38 : decode tX12_plans.1.2.1 38 = .ok (.iadd, 1) := by decide +kernel
theorem rd_d_X12_plans_39 : decode tX12_plans.1.2.1 39 = .ok (.istore 7, 2) := by decide +kernel
theorem rd_d_X12_plans_41 : decode tX12_plans.1.2.1 41 = .ok (.iconst 0, 1) := by decide +kernel
theorem rd_d_X12_plans_42 : decode tX12_plans.1.2.1 42 = .ok (.istore 8, 2) := by decide +kernel
theorem rd_d_X12_plans_44 : decode tX12_plans.1.2.1 44 = .ok (.iload 8, 2) := by decide +kernel
theorem rd_d_X12_plans_46 : decode tX12_plans.1.2.1 46 = .ok (.bipush 61, 2) := by decide +kernel
theorem rd_d_X12_plans_48 : decode tX12_plans.1.2.1 48 = .ok (.if_icmp .gt 50, 3) := by decide +kernel
theorem rd_d_X12_plans_51 : decode tX12_plans.1.2.1 51 = .ok (.iconst 0, 1) := by decide +kernel
theorem rd_d_X12_plans_52 : decode tX12_plans.1.2.1 52 = .ok (.istore 9, 2) := by decide +kernel
theorem rd_d_X12_plans_54 : decode tX12_plans.1.2.1 54 = .ok (.iload 9, 2) := by decide +kernel
theorem rd_d_X12_plans_56 : decode tX12_plans.1.2.1 56 = .ok (.iload_n 3, 1) := by decide +kernel
theorem rd_d_X12_plans_57 : decode tX12_plans.1.2.1 57 = .ok (.if_icmp .gt 35, 3) := by decide +kernel
theorem rd_d_X12_plans_60 : decode tX12_plans.1.2.1 60 = .ok (.aload_n 0, 1) := by decide +kernel
theorem rd_d_X12_plans_61 : decode tX12_plans.1.2.1 61 = .ok (.iload 6, 2) := by decide +kernel
theorem rd_d_X12_plans_63 : decode tX12_plans.1.2.1 63 = .ok (.iload 7, 2) := by decide +kernel
theorem rd_d_X12_plans_65 : decode tX12_plans.1.2.1 65 = .ok (.iload 8, 2) := by decide +kernel
theorem rd_d_X12_plans_67 : decode tX12_plans.1.2.1 67 = .ok (.iload 9, 2) := by decide +kernel
theorem rd_d_X12_plans_69 : decode tX12_plans.1.2.1 69 = .ok (.iload 6, 2) := by decide +kernel
theorem rd_d_X12_plans_71 : decode tX12_plans.1.2.1 71 = .ok (.iload 5, 2) := by decide +kernel
theorem rd_d_X12_plans_73 : decode tX12_plans.1.2.1 73 = .ok (.iconst 1, 1) := by decide +kernel
theorem rd_d_X12_plans_74 : decode tX12_plans.1.2.1 74 = .ok (.isub, 1) := by decide +kernel
theorem rd_d_X12_plans_75 : decode tX12_plans.1.2.1 75 = .ok (.if_icmp .ne 7, 3) := by decide +kernel
theorem rd_d_X12_plans_78 : decode tX12_plans.1.2.1 78 = .ok (.iconst 1, 1) := by decide +kernel
theorem rd_d_X12_plans_79 : decode tX12_plans.1.2.1 79 = .ok (.goto 4, 3) := by decide +kernel
theorem rd_d_X12_plans_82 : decode tX12_plans.1.2.1 82 = .ok (.iconst 0, 1) := by decide +kernel
theorem rd_d_X12_plans_83 : decode tX12_plans.1.2.1 83 = .ok (.invokevirtual 291, 3) := by decide +kernel
theorem rd_k_X12_plans_83 : ex_lk ex_mt tX12_plans 83 (.invokevirtual 291) [0, 88, 524468] = true := by decide +kernel
theorem rd_d_X12_plans_86 : decode tX12_plans.1.2.1 86 = .ok (.iinc 9 1, 3) := by decide +kernel
theorem rd_d_X12_plans_89 : decode tX12_plans.1.2.1 89 = .ok (.goto (-35), 3) := by decide +kernel
theorem rd_d_X12_plans_92 : decode tX12_plans.1.2.1 92 = .ok (.iinc 8 1, 3) := by decide +kernel
theorem rd_d_X12_plans_95 : decode tX12_plans.1.2.1 95 = .ok (.goto (-51), 3) := by decide +kernel
theorem rd_d_X12_plans_98 : decode tX12_plans.1.2.1 98 = .ok (.iinc 6 (-1), 3) := by decide +kernel
theorem rd_d_X12_plans_101 : decode tX12_plans.1.2.1 101 = .ok (.goto (-74), 3) := by decide +kernel
theorem rd_d_X12_plans_104 : decode tX12_plans.1.2.1 104 = .ok (.return_, 1) := by decide +kernel
theorem rd_d_X12_off_0 : decode tX12_off.1.2.1 0 = .ok (.iload_n 0, 1) := by decide +kernel
theorem rd_d_X12_off_1 : decode tX12_off.1.2.1 1 = .ok (.iload_n 1, 1) := by decide +kernel
theorem rd_d_X12_off_2 : decode tX12_off.1.2.1 2 = .ok (.if_icmp .ge 9, 3) := by decide +kernel
theorem rd_d_X12_off_5 : decode tX12_off.1.2.1 5 = .ok (.iload_n 1, 1) := by decide +kernel
theorem rd_d_X12_off_6 : decode tX12_off.1.2.1 6 = .ok (.iload_n 0, 1) := by decide +kernel
theorem rd_d_X12_off_7 : decode tX12_off.1.2.1 7 = .ok (.isub, 1) := by decide +kernel
theorem rd_d_X12_off_8 : decode tX12_off.1.2.1 8 = .ok (.goto 6, 3) := by decide +kernel
theorem rd_d_X12_off_11 : decode tX12_off.1.2.1 11 = .ok (.iload_n 0, 1) := by decide +kernel
theorem rd_d_X12_off_12 : decode tX12_off.1.2.1 12 = .ok (.iload_n 1, 1) := by decide +kernel
theorem rd_d_X12_off_13 : decode tX12_off.1.2.1 13 = .ok (.isub, 1) := by decide +kernel
theorem rd_d_X12_off_14 : decode tX12_off.1.2.1 14 = .ok (.ireturn, 1) := by decide +kernel
theorem rd_d_X12_planOf_0 : decode tX12_planOf.1.2.1 0 = .ok (.aload_n 0, 1) := by decide +kernel
theorem rd_d_X12_planOf_1 : decode tX12_planOf.1.2.1 1 = .ok (.iload_n 1, 1) := by decide +kernel
theorem rd_d_X12_planOf_2 : decode tX12_planOf.1.2.1 2 = .ok (.iload_n 2, 1) := by decide +kernel
theorem rd_d_X12_planOf_3 : decode tX12_planOf.1.2.1 3 = .ok (.iload_n 3, 1) := by decide +kernel
theorem rd_d_X12_planOf_4 : decode tX12_planOf.1.2.1 4 = .ok (.invokevirtual 304, 3) := by decide +kernel
theorem rd_k_X12_planOf_4 : ex_lk ex_mt tX12_planOf 4 (.invokevirtual 304) [0, 154, 524461] = true := by decide +kernel
theorem rd_d_X12_planOf_7 : decode tX12_planOf.1.2.1 7 = .ok (.aload_n 0, 1) := by decide +kernel
theorem rd_d_X12_planOf_8 : decode tX12_planOf.1.2.1 8 = .ok (.getfield 49, 3) := by decide +kernel
theorem rd_k_X12_planOf_8 : ex_lk ex_mt tX12_planOf 8 (.getfield 49) [12, 22, 2, 458789] = true := by decide +kernel
theorem rd_d_X12_planOf_11 : decode tX12_planOf.1.2.1 11 = .ok (.iconst 0, 1) := by decide +kernel
theorem rd_d_X12_planOf_12 : decode tX12_planOf.1.2.1 12 = .ok (.iconst 0, 1) := by decide +kernel
theorem rd_d_X12_planOf_13 : decode tX12_planOf.1.2.1 13 = .ok (.iload_n 3, 1) := by decide +kernel
theorem rd_d_X12_planOf_14 : decode tX12_planOf.1.2.1 14 = .ok (.invokestatic 301, 3) := by decide +kernel
theorem rd_k_X12_planOf_14 : ex_lk ex_mt tX12_planOf 14 (.invokestatic 301) [0, 86, 524479] = true := by decide +kernel
theorem rd_d_X12_planOf_17 : decode tX12_planOf.1.2.1 17 = .ok (.iaload, 1) := by decide +kernel
theorem rd_d_X12_planOf_18 : decode tX12_planOf.1.2.1 18 = .ok (.ireturn, 1) := by decide +kernel
theorem rd_d_X9_oftenOf_0 : decode tX9_oftenOf.1.2.1 0 = .ok (.aload_n 0, 1) := by decide +kernel
theorem rd_d_X9_oftenOf_1 : decode tX9_oftenOf.1.2.1 1 = .ok (.getfield 18, 3) := by decide +kernel
theorem rd_k_X9_oftenOf_1 : ex_lk ex_mt tX9_oftenOf 1 (.getfield 18) [9, 2, 2, 65651] = true := by decide +kernel
theorem rd_d_X9_oftenOf_4 : decode tX9_oftenOf.1.2.1 4 = .ok (.iload_n 1, 1) := by decide +kernel
theorem rd_d_X9_oftenOf_5 : decode tX9_oftenOf.1.2.1 5 = .ok (.invokestatic 118, 3) := by decide +kernel
theorem rd_k_X9_oftenOf_5 : ex_lk ex_mt tX9_oftenOf 5 (.invokestatic 118) [0, 32, 196745] = true := by decide +kernel
theorem rd_d_X9_oftenOf_8 : decode tX9_oftenOf.1.2.1 8 = .ok (.ireturn, 1) := by decide +kernel
theorem rd_d_X9_walking_0 : decode tX9_walking.1.2.1 0 = .ok (.aload_n 0, 1) := by decide +kernel
theorem rd_d_X9_walking_1 : decode tX9_walking.1.2.1 1 = .ok (.getfield 30, 3) := by decide +kernel
theorem rd_k_X9_walking_1 : ex_lk ex_mt tX9_walking 1 (.getfield 30) [9, 6, 2, 65655] = true := by decide +kernel
theorem rd_d_X9_walking_4 : decode tX9_walking.1.2.1 4 = .ok (.iconst 0, 1) := by decide +kernel
theorem rd_d_X9_walking_5 : decode tX9_walking.1.2.1 5 = .ok (.invokestatic 118, 3) := by decide +kernel
theorem rd_k_X9_walking_5 : ex_lk ex_mt tX9_walking 5 (.invokestatic 118) [0, 32, 196745] = true := by decide +kernel
theorem rd_d_X9_walking_8 : decode tX9_walking.1.2.1 8 = .ok (.ireturn, 1) := by decide +kernel
theorem rd_d_X9_basket_0 : decode tX9_basket.1.2.1 0 = .ok (.aload_n 0, 1) := by decide +kernel
theorem rd_d_X9_basket_1 : decode tX9_basket.1.2.1 1 = .ok (.getfield 30, 3) := by decide +kernel
theorem rd_k_X9_basket_1 : ex_lk ex_mt tX9_basket 1 (.getfield 30) [9, 6, 2, 65655] = true := by decide +kernel
theorem rd_d_X9_basket_4 : decode tX9_basket.1.2.1 4 = .ok (.iconst 1, 1) := by decide +kernel
theorem rd_d_X9_basket_5 : decode tX9_basket.1.2.1 5 = .ok (.invokestatic 118, 3) := by decide +kernel
theorem rd_k_X9_basket_5 : ex_lk ex_mt tX9_basket 5 (.invokestatic 118) [0, 32, 196745] = true := by decide +kernel
theorem rd_d_X9_basket_8 : decode tX9_basket.1.2.1 8 = .ok (.ireturn, 1) := by decide +kernel
section AXX
variable {g : am_C} {L : Nat} {xs : Nat → Int32}
def pl_Bm (σ : am_S) : Prop := (0 ≤ (σ.2.1 4 7).toInt ∧ (σ.2.1 4 7).toInt ≤ 10) ∧ (0 ≤ (σ.2.1 4 8).toInt ∧ (σ.2.1 4 8).toInt ≤ 6) ∧ pl_B (σ.2.1 120)
theorem pl_Bm_of {σe σ : am_S} {m : Nat} (hM : sx_M z9 hd_C σe m 0 σ) : pl_Bm σ := ⟨hM.2.2.1 4 7 _ _ _ rfl, hM.2.2.1 4 8 _ _ _ rfl, (pl_BM hM).1⟩
def ax_f_has (m : Nat → Nat → Int32) (a : Int32) : Int32 := if a < 0 then 0 else if (m 4 7) ≤ a then 0 else 1
theorem ax_has (G : sx_G0 g L xs z9 hd_C ex_mt) {σ : am_S} (hS : ax_S σ) (a : Int32) : am_K g 1 tX9_has.1 0 0 0 (lv_args 0 [.ref 4, .int a]) [] σ (ax_R (ax_f_has σ.2.1 a) σ) := by
  refine kr_iload_n 1 rd_d_X9_has_0 rfl ?_
  refine kr_if_lt (tgt := 16) rd_d_X9_has_1 rfl (fun h1 => ?_) (fun h1 => ?_)
  · refine kr_iconst (v := 0) rd_d_X9_has_16 (by decide) ?_
    exact kr_ireturn rd_d_X9_has_17 (ty := .boolean) rfl rfl ⟨by rw [ax_f_has, if_pos h1], rfl⟩
  · refine kr_iload_n 1 rd_d_X9_has_4 rfl ?_
    refine kr_aload_n 0 rd_d_X9_has_5 rfl ?_
    refine kr_getf G.1 (rd_FL rd_k_X9_has_6).1 rd_d_X9_has_6 (hS.1 4 (.inl 9) rfl) (v := .int (σ.2.1 4 7)) (by unfold am_fa; rw [(rd_FL rd_k_X9_has_6).2]; rfl) ?_
    refine kr_icmp_ge (tgt := 16) rd_d_X9_has_9 rfl (fun h2 => ?_) (fun h2 => ?_)
    · refine kr_iconst (v := 0) rd_d_X9_has_16 (by decide) ?_
      exact kr_ireturn rd_d_X9_has_17 (ty := .boolean) rfl rfl ⟨by rw [ax_f_has, if_neg h1, if_pos h2], rfl⟩
    · refine kr_iconst (v := 1) rd_d_X9_has_12 (by decide) ?_
      refine kr_goto (tgt := 17) rd_d_X9_has_13 rfl ?_
      exact kr_ireturn rd_d_X9_has_17 (ty := .boolean) rfl rfl ⟨by rw [ax_f_has, if_neg h1, if_neg h2], rfl⟩
def ax_f_win (s : Nat → Int32) (a : Int32) : Int32 := ax_f_isIn a 0 ((s 0) - 1)
theorem ax_win (G : sx_G0 g L xs z9 hd_C ex_mt) {σ : am_S} (hS : ax_S σ) (a : Int32) : am_K g 2 tX12_isWindow.1 0 0 0 (lv_args 0 [.ref 118, .int a]) [] σ (ax_R (ax_f_win (σ.2.1 120) a) σ) := by
  refine kr_iload_n 1 rd_d_X12_isWindow_0 rfl ?_
  refine kr_iconst (v := 0) rd_d_X12_isWindow_1 (by decide) ?_
  refine kr_aload_n 0 rd_d_X12_isWindow_2 rfl ?_
  refine kr_getf G.1 (rd_FL rd_k_X12_isWindow_3).1 rd_d_X12_isWindow_3 (hS.1 118 (.inl 12) rfl) (v := .ref 120) (by unfold am_fa; rw [(rd_FL rd_k_X12_isWindow_3).2]; exact hS.2 118 6 120 rfl) ?_
  refine kr_iconst (v := 0) rd_d_X12_isWindow_6 (by decide) ?_
  refine kr_iald G.1 (n := 277) rd_d_X12_isWindow_7 (hS.1 120 (.inr (.int, 277)) rfl) (hd_in (n := 0) (by decide) (by decide)) ?_
  rw [hd_clamp (n := 0) (by decide)]
  refine kr_iconst (v := 1) rd_d_X12_isWindow_8 (by decide) ?_
  refine kr_isub rd_d_X12_isWindow_9 ?_
  refine rd_callS G (T2 := tX12_isIn) rfl rd_d_X12_isWindow_10 rd_k_X12_isWindow_10 rfl rfl (as := [.int a, .int 0, .int ((σ.2.1 120 0) - 1)]) (st := []) rfl (Nat.le_of_ble_eq_true rfl) rfl (Nat.le_of_ble_eq_true rfl) (d1 := 1) (by decide) (fun _ h => by cases h.1) (ax_isIn G hS a 0 ((σ.2.1 120 0) - 1)) ?_
  intro v1 σ1 ⟨hv1, hs1⟩
  cases hv1
  rw [hs1]
  exact kr_ireturn rd_d_X12_isWindow_13 (ty := .boolean) rfl (ax_isIn_b _ _ _) ⟨rfl, rfl⟩
theorem ax_winI {s : Nat → Int32} (b : pl_B s) {a : Int32} (h : ¬ ax_f_win s a = 0) : 0 ≤ a.toInt ∧ a.toInt < (s 0).toInt ∧ a.toInt < 10 := by
  have z0 : (0 : Int32).toInt = 0 := rfl
  have z1 : (1 : Int32).toInt = 1 := rfl
  obtain ⟨⟨b1, b2⟩, -⟩ := b
  have e := sx_subI (s 0) 1 (by show (-2147483648 : Int) ≤ _; omega) (by show _ ≤ (2147483647 : Int); omega)
  rw [ax_f_win, ax_f_isIn] at h
  split at h
  · exact absurd rfl h
  · rename_i q1
    split at h
    · exact absurd rfl h
    · rename_i q2
      have g1 : ¬ a.toInt < 0 := fun q => q1 (Int32.lt_iff_toInt_lt.mpr (by omega))
      have g2 : ¬ (s 0 - 1).toInt < a.toInt := fun q => q2 (Int32.lt_iff_toInt_lt.mpr q)
      omega
theorem ax_win10 {s : Nat → Int32} (b : pl_B s) {a : Int32} (h : ¬ ax_f_win s a = 0) : 0 ≤ a.toInt ∧ a.toInt < 10 := ⟨(ax_winI b h).1, (ax_winI b h).2.2⟩
theorem pl_w {m : Nat → Nat → Int32} {o : Nat} {s : Nat → Int32} (h : pl_R m o s) : m o 7 = s 0 := Int32.toInt_inj.mp h.1
theorem ax_hasE {m : Nat → Nat → Int32} {s : Nat → Int32} (h : pl_R m 4 s) (b : pl_B s) (a : Int32) : ax_f_has m a = ax_f_win s a := by
  have z0 : (0 : Int32).toInt = 0 := rfl
  have z1 : (1 : Int32).toInt = 1 := rfl
  have hw := pl_w h
  obtain ⟨⟨b1, b2⟩, -⟩ := b
  have e := sx_subI (s 0) 1 (by show (-2147483648 : Int) ≤ _; omega) (by show _ ≤ (2147483647 : Int); omega)
  rw [ax_f_has, ax_f_win, ax_f_isIn, hw]
  by_cases g1 : a < 0
  · rw [if_pos g1, if_pos g1]
  · rw [if_neg g1, if_neg g1]
    by_cases g2 : s 0 ≤ a
    · rw [if_pos g2, if_pos (Int32.lt_iff_toInt_lt.mpr (by have := Int32.le_iff_toInt_le.mp g2; omega))]
    · rw [if_neg g2, if_neg (fun q => g2 (Int32.le_iff_toInt_le.mpr (by have := Int32.lt_iff_toInt_lt.mp q; omega)))]
theorem ax_rowE {m : Nat → Nat → Int32} {s : Nat → Int32} (h : pl_R m 4 s) (b : pl_B s) {a : Int32} (ha : ¬ ax_f_win s a = 0) {r : Nat} (hr : r < 4) : ax_ent (m (5 + r)) 10 a = s (rc_bs r + a.toInt.toNat) := by
  obtain ⟨a1, a2, a3⟩ := ax_winI b ha
  rw [ax_ent_in (k := a.toInt.toNat) (by decide) (by omega) (by omega)]
  have := h.2.2.2 r (by omega) a.toInt.toNat (by rw [rc_c, if_pos hr]; omega)
  rw [show 4 + 1 + r = 5 + r by omega] at this
  exact this
theorem ax_setE {m : Nat → Nat → Int32} {s : Nat → Int32} (h : pl_R m 4 s) {a : Int32} {j : Nat} (e : a.toInt = (j : Int)) (hj : j < 8) : ax_ent (m 11) 8 a = s (54 + j) := by
  rw [ax_ent_in (k := j) (by decide) e hj]
  exact h.2.2.2 6 (by decide) j hj
def ax_f_pri (m : Nat → Nat → Int32) (a : Int32) : Int32 := ax_ent (m 5) 10 a
theorem ax_pri (G : sx_G0 g L xs z9 hd_C ex_mt) {σ : am_S} (hS : ax_S σ) (a : Int32) : am_K g 2 tX9_priceOf.1 0 0 0 (lv_args 0 [.ref 4, .int a]) [] σ (ax_R (ax_f_pri σ.2.1 a) σ) := by
  refine kr_aload_n 0 rd_d_X9_priceOf_0 rfl ?_
  refine kr_getf G.1 (rd_FL rd_k_X9_priceOf_1).1 rd_d_X9_priceOf_1 (hS.1 4 (.inl 9) rfl) (v := .ref 5) (by unfold am_fa; rw [(rd_FL rd_k_X9_priceOf_1).2]; exact hS.2 4 0 5 rfl) ?_
  refine kr_iload_n 1 rd_d_X9_priceOf_4 rfl ?_
  refine rd_callS G (T2 := tX11_entry) rfl rd_d_X9_priceOf_5 rd_k_X9_priceOf_5 rfl rfl (as := [.ref 5, .int a]) (st := []) rfl (Nat.le_of_ble_eq_true rfl) rfl (Nat.le_of_ble_eq_true rfl) (d1 := 1) (by decide) (fun _ h => by cases h.1) (ax_entry G (hS.1 5 (.inr (.int, 10)) rfl) (by decide) a) ?_
  intro v1 σ1 ⟨hv1, hs1⟩
  cases hv1
  rw [hs1]
  exact kr_ireturn rd_d_X9_priceOf_8 (ty := .int) rfl rfl ⟨rfl, rfl⟩
def ax_f_tak (m : Nat → Nat → Int32) (a : Int32) : Int32 := ax_ent (m 6) 10 a
theorem ax_tak (G : sx_G0 g L xs z9 hd_C ex_mt) {σ : am_S} (hS : ax_S σ) (a : Int32) : am_K g 2 tX9_takesOf.1 0 0 0 (lv_args 0 [.ref 4, .int a]) [] σ (ax_R (ax_f_tak σ.2.1 a) σ) := by
  refine kr_aload_n 0 rd_d_X9_takesOf_0 rfl ?_
  refine kr_getf G.1 (rd_FL rd_k_X9_takesOf_1).1 rd_d_X9_takesOf_1 (hS.1 4 (.inl 9) rfl) (v := .ref 6) (by unfold am_fa; rw [(rd_FL rd_k_X9_takesOf_1).2]; exact hS.2 4 1 6 rfl) ?_
  refine kr_iload_n 1 rd_d_X9_takesOf_4 rfl ?_
  refine rd_callS G (T2 := tX11_entry) rfl rd_d_X9_takesOf_5 rd_k_X9_takesOf_5 rfl rfl (as := [.ref 6, .int a]) (st := []) rfl (Nat.le_of_ble_eq_true rfl) rfl (Nat.le_of_ble_eq_true rfl) (d1 := 1) (by decide) (fun _ h => by cases h.1) (ax_entry G (hS.1 6 (.inr (.int, 10)) rfl) (by decide) a) ?_
  intro v1 σ1 ⟨hv1, hs1⟩
  cases hv1
  rw [hs1]
  exact kr_ireturn rd_d_X9_takesOf_8 (ty := .int) rfl rfl ⟨rfl, rfl⟩
def ax_s_wfX (m : Nat → Nat → Int32) (t : Int32) (rec : Int32 → Int32 → Int32) (k z : Int32) : Int32 := if (m 4 8) ≤ k then z else if (nI 6) ≤ k then z else if (nI 6) ≤ k then z else if (m 9 k.toInt.toNat) < t then rec (k + 1) z else rec (k + 1) (z + (m 10 k.toInt.toNat))
def ax_l_wfX (m : Nat → Nat → Int32) (t : Int32) : Nat → Int32 → Int32 → Int32
  | 0, k, z => ax_s_wfX m t (fun _ _ => 0) k z
  | f + 1, k, z => ax_s_wfX m t (ax_l_wfX m t f) k z
theorem ax_l_wfX_zero (m : Nat → Nat → Int32) (t : Int32) (k z : Int32) : ax_l_wfX m t 0 k z = ax_s_wfX m t (fun _ _ => 0) k z := rfl
theorem ax_l_wfX_succ (m : Nat → Nat → Int32) (t : Int32) (f : Nat) (k z : Int32) : ax_l_wfX m t (f + 1) k z = ax_s_wfX m t (ax_l_wfX m t f) k z := rfl
theorem ax_lo_wfX (G : sx_G0 g L xs z9 hd_C ex_mt) {σ : am_S} (hS : ax_S σ) (t : Int32) (hb : (σ.2.1 4 8).toInt ≤ 6) : ∀ (f j : Nat) (k z : Int32), k.toInt = (j : Int) → j + f = 6 → am_K g 1 tX9_weightFrom.1 0 0 4 [(3, .int k), (2, .int z), (0, .ref 4), (1, .int t)] [] σ (ax_R (ax_l_wfX σ.2.1 t f k z) σ) := by
  intro f
  induction f with
  | zero =>
    intro j k z ek hj
    refine kr_iload_n 0 rd_d_X9_weightFrom_4 rfl ?_
    refine kr_aload_n 2 rd_d_X9_weightFrom_5 rfl ?_
    refine kr_getf G.1 (rd_FL rd_k_X9_weightFrom_6).1 rd_d_X9_weightFrom_6 (hS.1 4 (.inl 9) rfl) (v := .int (σ.2.1 4 8)) (by unfold am_fa; rw [(rd_FL rd_k_X9_weightFrom_6).2]; rfl) ?_
    refine kr_icmp_ge (tgt := 55) rd_d_X9_weightFrom_9 rfl (fun h1 => ?_) (fun h1 => ?_)
    · refine kr_iload_n 1 rd_d_X9_weightFrom_55 rfl ?_
      exact kr_ireturn rd_d_X9_weightFrom_56 (ty := .int) rfl rfl ⟨by rw [ax_l_wfX_zero, ax_s_wfX, if_pos h1], rfl⟩
    · exact absurd (Int32.le_iff_toInt_le.mpr (by omega)) h1
  | succ f ih =>
    intro j k z ek hj
    refine kr_iload_n 0 rd_d_X9_weightFrom_4 rfl ?_
    refine kr_aload_n 2 rd_d_X9_weightFrom_5 rfl ?_
    refine kr_getf G.1 (rd_FL rd_k_X9_weightFrom_6).1 rd_d_X9_weightFrom_6 (hS.1 4 (.inl 9) rfl) (v := .int (σ.2.1 4 8)) (by unfold am_fa; rw [(rd_FL rd_k_X9_weightFrom_6).2]; rfl) ?_
    refine kr_icmp_ge (tgt := 55) rd_d_X9_weightFrom_9 rfl (fun h1 => ?_) (fun h1 => ?_)
    · refine kr_iload_n 1 rd_d_X9_weightFrom_55 rfl ?_
      exact kr_ireturn rd_d_X9_weightFrom_56 (ty := .int) rfl rfl ⟨by rw [ax_l_wfX_succ, ax_s_wfX, if_pos h1], rfl⟩
    · refine kr_iload_n 0 rd_d_X9_weightFrom_12 rfl ?_
      refine kr_aload_n 2 rd_d_X9_weightFrom_13 rfl ?_
      refine kr_getf G.1 (rd_FL rd_k_X9_weightFrom_14).1 rd_d_X9_weightFrom_14 (hS.1 4 (.inl 9) rfl) (v := .ref 9) (by unfold am_fa; rw [(rd_FL rd_k_X9_weightFrom_14).2]; exact hS.2 4 4 9 rfl) ?_
      refine kr_alenI G.1 (n := 6) rd_d_X9_weightFrom_17 (hS.1 9 (.inr (.int, 6)) rfl) ?_
      refine kr_icmp_ge (tgt := 55) rd_d_X9_weightFrom_18 rfl (fun h2 => ?_) (fun h2 => ?_)
      · refine kr_iload_n 1 rd_d_X9_weightFrom_55 rfl ?_
        exact kr_ireturn rd_d_X9_weightFrom_56 (ty := .int) rfl rfl ⟨by rw [ax_l_wfX_succ, ax_s_wfX, if_neg h1, if_pos h2], rfl⟩
      · refine kr_iload_n 0 rd_d_X9_weightFrom_21 rfl ?_
        refine kr_aload_n 2 rd_d_X9_weightFrom_22 rfl ?_
        refine kr_getf G.1 (rd_FL rd_k_X9_weightFrom_23).1 rd_d_X9_weightFrom_23 (hS.1 4 (.inl 9) rfl) (v := .ref 10) (by unfold am_fa; rw [(rd_FL rd_k_X9_weightFrom_23).2]; exact hS.2 4 5 10 rfl) ?_
        refine kr_alenI G.1 (n := 6) rd_d_X9_weightFrom_26 (hS.1 10 (.inr (.int, 6)) rfl) ?_
        refine kr_icmp_ge (tgt := 55) rd_d_X9_weightFrom_27 rfl (fun h3 => ?_) (fun h3 => ?_)
        · refine kr_iload_n 1 rd_d_X9_weightFrom_55 rfl ?_
          exact kr_ireturn rd_d_X9_weightFrom_56 (ty := .int) rfl rfl ⟨by rw [ax_l_wfX_succ, ax_s_wfX, if_neg h1, if_neg h2, if_pos h3], rfl⟩
        · refine kr_aload_n 2 rd_d_X9_weightFrom_30 rfl ?_
          refine kr_getf G.1 (rd_FL rd_k_X9_weightFrom_31).1 rd_d_X9_weightFrom_31 (hS.1 4 (.inl 9) rfl) (v := .ref 9) (by unfold am_fa; rw [(rd_FL rd_k_X9_weightFrom_31).2]; exact hS.2 4 4 9 rfl) ?_
          refine kr_iload_n 0 rd_d_X9_weightFrom_34 rfl ?_
          refine kr_iald G.1 (n := 6) rd_d_X9_weightFrom_35 (hS.1 9 (.inr (.int, 6)) rfl) (hd_in (n := k.toInt.toNat) (by omega) (by omega)) ?_
          rw [hd_clamp (n := k.toInt.toNat) (by omega)]
          refine kr_iload_n 3 rd_d_X9_weightFrom_36 rfl ?_
          refine kr_icmp_lt (tgt := 49) rd_d_X9_weightFrom_37 rfl (fun h4 => ?_) (fun h4 => ?_)
          · refine kr_iinc (v := k + 1) (lv' := [(3, .int (k + 1)), (2, .int z), (0, .ref 4), (1, .int t)]) 0 rd_d_X9_weightFrom_49 rfl rfl (by decide) rfl ?_
            refine kr_goto (tgt := 4) rd_d_X9_weightFrom_52 rfl ?_
            rw [ax_l_wfX_succ, ax_s_wfX, if_neg h1, if_neg h2, if_neg h3, if_pos h4]
            exact ih (j + 1) (k + 1) z (ax_inc ek (by omega)) (by omega)
          · refine kr_iload_n 1 rd_d_X9_weightFrom_40 rfl ?_
            refine kr_aload_n 2 rd_d_X9_weightFrom_41 rfl ?_
            refine kr_getf G.1 (rd_FL rd_k_X9_weightFrom_42).1 rd_d_X9_weightFrom_42 (hS.1 4 (.inl 9) rfl) (v := .ref 10) (by unfold am_fa; rw [(rd_FL rd_k_X9_weightFrom_42).2]; exact hS.2 4 5 10 rfl) ?_
            refine kr_iload_n 0 rd_d_X9_weightFrom_45 rfl ?_
            refine kr_iald G.1 (n := 6) rd_d_X9_weightFrom_46 (hS.1 10 (.inr (.int, 6)) rfl) (hd_in (n := k.toInt.toNat) (by omega) (by omega)) ?_
            rw [hd_clamp (n := k.toInt.toNat) (by omega)]
            refine kr_iadd rd_d_X9_weightFrom_47 ?_
            refine kr_istore_n (lv' := [(2, .int (z + (σ.2.1 10 k.toInt.toNat))), (3, .int k), (0, .ref 4), (1, .int t)]) rd_d_X9_weightFrom_48 (by decide) rfl ?_
            refine kr_iinc (v := k + 1) (lv' := [(3, .int (k + 1)), (2, .int (z + (σ.2.1 10 k.toInt.toNat))), (0, .ref 4), (1, .int t)]) 1 rd_d_X9_weightFrom_49 rfl rfl (by decide) rfl ?_
            refine kr_goto (tgt := 4) rd_d_X9_weightFrom_52 rfl ?_
            rw [ax_l_wfX_succ, ax_s_wfX, if_neg h1, if_neg h2, if_neg h3, if_neg h4]
            exact ih (j + 1) (k + 1) (z + (σ.2.1 10 k.toInt.toNat)) (ax_inc ek (by omega)) (by omega)
def ax_f_wf (m : Nat → Nat → Int32) (t : Int32) : Int32 := ax_l_wfX m t 6 0 0
theorem ax_wf (G : sx_G0 g L xs z9 hd_C ex_mt) {σ : am_S} (hS : ax_S σ) (t : Int32) (hb : pl_Bm σ) : am_K g 1 tX9_weightFrom.1 0 0 0 (lv_args 0 [.ref 4, .int t]) [] σ (ax_R (ax_f_wf σ.2.1 t) σ) := by
  refine kr_iconst (v := 0) rd_d_X9_weightFrom_0 (by decide) ?_
  refine kr_istore_n (lv' := [(2, .int 0), (0, .ref 4), (1, .int t)]) rd_d_X9_weightFrom_1 (by decide) rfl ?_
  refine kr_iconst (v := 0) rd_d_X9_weightFrom_2 (by decide) ?_
  refine kr_istore_n (lv' := [(3, .int 0), (2, .int 0), (0, .ref 4), (1, .int t)]) rd_d_X9_weightFrom_3 (by decide) rfl ?_
  rw [ax_f_wf]
  exact kr_less (by decide) (Nat.le_refl _) (Nat.le_refl _) (ax_lo_wfX G hS t hb.2.1.2 6 0 0 0 rfl rfl)
def ax_s_sdM (s : Nat → Int32) (t : Int32) (rec : Int32 → Int32 → Int32) (k z : Int32) : Int32 := if (ax_f_many (s)) ≤ k then z else if (ax_f_secM (s) k (k.toInt.toNat)) < t then rec (k + 1) (z + 0) else rec (k + 1) (z + (ax_f_wgtM (s) k (k.toInt.toNat)))
def ax_l_sdM (s : Nat → Int32) (t : Int32) : Nat → Int32 → Int32 → Int32
  | 0, k, z => ax_s_sdM s t (fun _ _ => 0) k z
  | f + 1, k, z => ax_s_sdM s t (ax_l_sdM s t f) k z
theorem ax_l_sdM_zero (s : Nat → Int32) (t : Int32) (k z : Int32) : ax_l_sdM s t 0 k z = ax_s_sdM s t (fun _ _ => 0) k z := rfl
theorem ax_l_sdM_succ (s : Nat → Int32) (t : Int32) (f : Nat) (k z : Int32) : ax_l_sdM s t (f + 1) k z = ax_s_sdM s t (ax_l_sdM s t f) k z := rfl
theorem ax_lo_sdM (G : sx_G0 g L xs z9 hd_C ex_mt) {σ : am_S} (hS : ax_S σ) (t : Int32) (hb : 0 ≤ (σ.2.1 120 1).toInt ∧ (σ.2.1 120 1).toInt ≤ 6) : ∀ (f j : Nat) (k z : Int32), k.toInt = (j : Int) → j + f = 6 → am_K g 3 tX12_standing.1 0 0 4 [(3, .int k), (2, .int z), (0, .ref 118), (1, .int t)] [] σ (ax_R (ax_l_sdM (σ.2.1 120) t f k z) σ) := by
  intro f
  induction f with
  | zero =>
    intro j k z ek hj
    refine kr_iload_n 0 rd_d_X12_standing_4 rfl ?_
    refine kr_aload_n 2 rd_d_X12_standing_5 rfl ?_
    refine rd_call G (T2 := tX12_standMany) rfl rd_d_X12_standing_6 rd_k_X12_standing_6 rfl (hS.1 118 (.inl 12) rfl) (as := []) (st := [.int k]) rfl (Nat.le_of_ble_eq_true rfl) rfl (Nat.le_of_ble_eq_true rfl) (d1 := 2) (by decide) (fun _ h => by cases h.1) (ax_many G hS ) ?_
    intro v1 σ1 ⟨hv1, hs1⟩
    cases hv1
    rw [hs1]
    refine kr_icmp_ge (tgt := 39) rd_d_X12_standing_9 rfl (fun h2 => ?_) (fun h2 => ?_)
    · refine kr_iload_n 1 rd_d_X12_standing_39 rfl ?_
      exact kr_ireturn rd_d_X12_standing_40 (ty := .int) rfl rfl ⟨by rw [ax_l_sdM_zero, ax_s_sdM, if_pos h2], rfl⟩
    · exact absurd (Int32.le_iff_toInt_le.mpr (by have := (ax_many6 hb).2; omega)) h2
  | succ f ih =>
    intro j k z ek hj
    refine kr_iload_n 0 rd_d_X12_standing_4 rfl ?_
    refine kr_aload_n 2 rd_d_X12_standing_5 rfl ?_
    refine rd_call G (T2 := tX12_standMany) rfl rd_d_X12_standing_6 rd_k_X12_standing_6 rfl (hS.1 118 (.inl 12) rfl) (as := []) (st := [.int k]) rfl (Nat.le_of_ble_eq_true rfl) rfl (Nat.le_of_ble_eq_true rfl) (d1 := 2) (by decide) (fun _ h => by cases h.1) (ax_many G hS ) ?_
    intro v1 σ1 ⟨hv1, hs1⟩
    cases hv1
    rw [hs1]
    refine kr_icmp_ge (tgt := 39) rd_d_X12_standing_9 rfl (fun h2 => ?_) (fun h2 => ?_)
    · refine kr_iload_n 1 rd_d_X12_standing_39 rfl ?_
      exact kr_ireturn rd_d_X12_standing_40 (ty := .int) rfl rfl ⟨by rw [ax_l_sdM_succ, ax_s_sdM, if_pos h2], rfl⟩
    · refine kr_iload_n 1 rd_d_X12_standing_12 rfl ?_
      refine kr_aload_n 2 rd_d_X12_standing_13 rfl ?_
      refine kr_iload_n 0 rd_d_X12_standing_14 rfl ?_
      refine rd_call G (T2 := tX12_secondsOf) rfl rd_d_X12_standing_15 rd_k_X12_standing_15 rfl (hS.1 118 (.inl 12) rfl) (as := [.int k]) (st := [.int z]) rfl (Nat.le_of_ble_eq_true rfl) rfl (Nat.le_of_ble_eq_true rfl) (d1 := 1) (by decide) (fun _ h => by cases h.1) (ax_secM G hS k (k.toInt.toNat) (by omega) (by omega)) ?_
      intro v3 σ3 ⟨hv3, hs3⟩
      cases hv3
      rw [hs3]
      refine kr_iload_n 3 rd_d_X12_standing_18 rfl ?_
      refine kr_icmp_lt (tgt := 30) rd_d_X12_standing_19 rfl (fun h4 => ?_) (fun h4 => ?_)
      · refine kr_iconst (v := 0) rd_d_X12_standing_30 (by decide) ?_
        refine kr_iadd rd_d_X12_standing_31 ?_
        refine kr_istore_n (lv' := [(2, .int (z + 0)), (3, .int k), (0, .ref 118), (1, .int t)]) rd_d_X12_standing_32 (by decide) rfl ?_
        refine kr_iinc (v := k + 1) (lv' := [(3, .int (k + 1)), (2, .int (z + 0)), (0, .ref 118), (1, .int t)]) 1 rd_d_X12_standing_33 rfl rfl (by decide) rfl ?_
        refine kr_goto (tgt := 4) rd_d_X12_standing_36 rfl ?_
        rw [ax_l_sdM_succ, ax_s_sdM, if_neg h2, if_pos h4]
        exact ih (j + 1) (k + 1) (z + 0) (ax_inc ek (by omega)) (by omega)
      · refine kr_aload_n 2 rd_d_X12_standing_22 rfl ?_
        refine kr_iload_n 0 rd_d_X12_standing_23 rfl ?_
        refine rd_call G (T2 := tX12_weightOf) rfl rd_d_X12_standing_24 rd_k_X12_standing_24 rfl (hS.1 118 (.inl 12) rfl) (as := [.int k]) (st := [.int z]) rfl (Nat.le_of_ble_eq_true rfl) rfl (Nat.le_of_ble_eq_true rfl) (d1 := 1) (by decide) (fun _ h => by cases h.1) (ax_wgtM G hS k (k.toInt.toNat) (by omega) (by omega)) ?_
        intro v5 σ5 ⟨hv5, hs5⟩
        cases hv5
        rw [hs5]
        refine kr_goto (tgt := 31) rd_d_X12_standing_27 rfl ?_
        refine kr_iadd rd_d_X12_standing_31 ?_
        refine kr_istore_n (lv' := [(2, .int (z + (ax_f_wgtM (σ.2.1 120) k (k.toInt.toNat)))), (3, .int k), (0, .ref 118), (1, .int t)]) rd_d_X12_standing_32 (by decide) rfl ?_
        refine kr_iinc (v := k + 1) (lv' := [(3, .int (k + 1)), (2, .int (z + (ax_f_wgtM (σ.2.1 120) k (k.toInt.toNat)))), (0, .ref 118), (1, .int t)]) 1 rd_d_X12_standing_33 rfl rfl (by decide) rfl ?_
        refine kr_goto (tgt := 4) rd_d_X12_standing_36 rfl ?_
        rw [ax_l_sdM_succ, ax_s_sdM, if_neg h2, if_neg h4]
        exact ih (j + 1) (k + 1) (z + (ax_f_wgtM (σ.2.1 120) k (k.toInt.toNat))) (ax_inc ek (by omega)) (by omega)
def ax_f_sd (s : Nat → Int32) (t : Int32) : Int32 := ax_l_sdM (s) t 6 0 0
theorem ax_sd (G : sx_G0 g L xs z9 hd_C ex_mt) {σ : am_S} (hS : ax_S σ) (t : Int32) (hb : pl_B (σ.2.1 120)) : am_K g 3 tX12_standing.1 0 0 0 (lv_args 0 [.ref 118, .int t]) [] σ (ax_R (ax_f_sd (σ.2.1 120) t) σ) := by
  refine kr_iconst (v := 0) rd_d_X12_standing_0 (by decide) ?_
  refine kr_istore_n (lv' := [(2, .int 0), (0, .ref 118), (1, .int t)]) rd_d_X12_standing_1 (by decide) rfl ?_
  refine kr_iconst (v := 0) rd_d_X12_standing_2 (by decide) ?_
  refine kr_istore_n (lv' := [(3, .int 0), (2, .int 0), (0, .ref 118), (1, .int t)]) rd_d_X12_standing_3 (by decide) rfl ?_
  rw [ax_f_sd]
  exact kr_less (by decide) (Nat.le_refl _) (Nat.le_refl _) (ax_lo_sdM G hS t hb.2 6 0 0 0 rfl rfl)
theorem wf_l {m : Nat → Nat → Int32} {s : Nat → Int32} (h : pl_R m 4 s) (b : pl_B s) (t : Int32) : ∀ (f j : Nat) (k z : Int32), k.toInt = (j : Int) → j + f = 6 → ax_l_wfX m t f k z = ax_l_sdM s t f k z := by
  have hN := pl_many h b
  have hn := ax_many6 (s := s) b.2
  have hm : ax_f_many s = m 4 8 := Int32.toInt_inj.mp hN
  have n6 : (nI 6).toInt = 6 := rfl
  have z0 : ∀ x : Int32, x + 0 = x := fun x => Int32.add_zero x
  intro f
  induction f with
  | zero =>
    intro j k z ek hj
    rw [ax_l_wfX_zero, ax_l_sdM_zero, ax_s_wfX, ax_s_sdM, hm, if_pos (Int32.le_iff_toInt_le.mpr (by omega)), if_pos (Int32.le_iff_toInt_le.mpr (by omega))]
  | succ f ih =>
    intro j k z ek hj
    rw [ax_l_wfX_succ, ax_l_sdM_succ, ax_s_wfX, ax_s_sdM, hm]
    by_cases q : m 4 8 ≤ k
    · rw [if_pos q, if_pos q]
    · have q' : ¬ (m 4 8).toInt ≤ k.toInt := fun e => q (Int32.le_iff_toInt_le.mpr e)
      have q6 : ¬ nI 6 ≤ k := fun e => by have := Int32.le_iff_toInt_le.mp e; omega
      obtain ⟨p1, p2⟩ := pl_sec h b (a := k) (j := k.toInt.toNat) (by omega) (by omega)
      rw [ax_f_secX, ax_ent_in (k := k.toInt.toNat) (by decide) (by omega) (by omega)] at p1
      rw [ax_f_wgtX, ax_ent_in (k := k.toInt.toNat) (by decide) (by omega) (by omega)] at p2
      rw [if_neg q, if_neg q, if_neg q6, if_neg q6, p1, p2]
      split
      · rw [z0]; exact ih (j + 1) _ _ (ax_inc ek (by omega)) (by omega)
      · exact ih (j + 1) _ _ (ax_inc ek (by omega)) (by omega)
theorem wf_eq {m : Nat → Nat → Int32} {s : Nat → Int32} (h : pl_R m 4 s) (b : pl_B s) (t : Int32) : ax_f_wf m t = ax_f_sd s t := by
  rw [ax_f_wf, ax_f_sd]
  exact wf_l h b t 6 0 0 0 rfl rfl
def ax_f_shy (m : Nat → Nat → Int32) : Int32 := ax_ent (m 11) 8 3
theorem ax_shy (G : sx_G0 g L xs z9 hd_C ex_mt) {σ : am_S} (hS : ax_S σ) : am_K g 2 tX9_shy.1 0 0 0 (lv_args 0 [.ref 4]) [] σ (ax_R (ax_f_shy σ.2.1) σ) := by
  refine kr_aload_n 0 rd_d_X9_shy_0 rfl ?_
  refine kr_getf G.1 (rd_FL rd_k_X9_shy_1).1 rd_d_X9_shy_1 (hS.1 4 (.inl 9) rfl) (v := .ref 11) (by unfold am_fa; rw [(rd_FL rd_k_X9_shy_1).2]; exact hS.2 4 6 11 rfl) ?_
  refine kr_iconst (v := 3) rd_d_X9_shy_4 (by decide) ?_
  refine rd_callS G (T2 := tX11_entry) rfl rd_d_X9_shy_5 rd_k_X9_shy_5 rfl rfl (as := [.ref 11, .int 3]) (st := []) rfl (Nat.le_of_ble_eq_true rfl) rfl (Nat.le_of_ble_eq_true rfl) (d1 := 1) (by decide) (fun _ h => by cases h.1) (ax_entry G (hS.1 11 (.inr (.int, 8)) rfl) (by decide) 3) ?_
  intro v1 σ1 ⟨hv1, hs1⟩
  cases hv1
  rw [hs1]
  exact kr_ireturn rd_d_X9_shy_8 (ty := .int) rfl rfl ⟨rfl, rfl⟩
def ax_f_hon (m : Nat → Nat → Int32) : Int32 := ax_ent (m 11) 8 2
theorem ax_hon (G : sx_G0 g L xs z9 hd_C ex_mt) {σ : am_S} (hS : ax_S σ) : am_K g 2 tX9_honest.1 0 0 0 (lv_args 0 [.ref 4]) [] σ (ax_R (ax_f_hon σ.2.1) σ) := by
  refine kr_aload_n 0 rd_d_X9_honest_0 rfl ?_
  refine kr_getf G.1 (rd_FL rd_k_X9_honest_1).1 rd_d_X9_honest_1 (hS.1 4 (.inl 9) rfl) (v := .ref 11) (by unfold am_fa; rw [(rd_FL rd_k_X9_honest_1).2]; exact hS.2 4 6 11 rfl) ?_
  refine kr_iconst (v := 2) rd_d_X9_honest_4 (by decide) ?_
  refine rd_callS G (T2 := tX11_entry) rfl rd_d_X9_honest_5 rd_k_X9_honest_5 rfl rfl (as := [.ref 11, .int 2]) (st := []) rfl (Nat.le_of_ble_eq_true rfl) rfl (Nat.le_of_ble_eq_true rfl) (d1 := 1) (by decide) (fun _ h => by cases h.1) (ax_entry G (hS.1 11 (.inr (.int, 8)) rfl) (by decide) 2) ?_
  intro v1 σ1 ⟨hv1, hs1⟩
  cases hv1
  rw [hs1]
  exact kr_ireturn rd_d_X9_honest_8 (ty := .int) rfl rfl ⟨rfl, rfl⟩
def ax_f_gnX (m : Nat → Nat → Int32) (a b t : Int32) : Int32 := if b = 1 then ((ax_f_pri m a) * (12 - (ax_f_shy m))) * (ax_f_wf m (t + 1)) else (ax_f_pri m a) * ((12 * (ax_f_wf m (t + (ax_f_tak m a)))) + ((ax_f_hon m) * ((ax_f_wf m (t + 1)) - (ax_f_wf m (t + (ax_f_tak m a))))))
theorem ax_gnX (G : sx_G0 g L xs z9 hd_C ex_mt) {σ : am_S} (hS : ax_S σ) (a b t : Int32) (hb : pl_Bm σ) : am_K g 3 tX9_gainOf.1 0 0 0 (lv_args 0 [.ref 4, .int a, .int b, .int t]) [] σ (ax_R (ax_f_gnX σ.2.1 a b t) σ) := by
  refine kr_aload_n 0 rd_d_X9_gainOf_0 rfl ?_
  refine kr_iload_n 3 rd_d_X9_gainOf_1 rfl ?_
  refine kr_iconst (v := 1) rd_d_X9_gainOf_2 (by decide) ?_
  refine kr_iadd rd_d_X9_gainOf_3 ?_
  refine rd_call G (T2 := tX9_weightFrom) rfl rd_d_X9_gainOf_4 rd_k_X9_gainOf_4 rfl (hS.1 4 (.inl 9) rfl) (as := [.int (t + 1)]) (st := []) rfl (Nat.le_of_ble_eq_true rfl) rfl (Nat.le_of_ble_eq_true rfl) (d1 := 1) (by decide) (fun _ h => by cases h.1) (ax_wf G hS (t + 1) hb) ?_
  intro v1 σ1 ⟨hv1, hs1⟩
  cases hv1
  rw [hs1]
  refine kr_istore (lv' := [(4, .int (ax_f_wf σ.2.1 (t + 1))), (0, .ref 4), (1, .int a), (2, .int b), (3, .int t)]) rd_d_X9_gainOf_7 (by decide) rfl ?_
  refine kr_iload_n 3 rd_d_X9_gainOf_9 rfl ?_
  refine kr_iconst (v := 1) rd_d_X9_gainOf_10 (by decide) ?_
  refine kr_icmp_ne (tgt := 31) rd_d_X9_gainOf_11 rfl (fun h2 => ?_) (fun h2 => ?_)
  · refine kr_aload_n 1 rd_d_X9_gainOf_31 rfl ?_
    refine kr_iload_n 4 rd_d_X9_gainOf_32 rfl ?_
    refine kr_aload_n 1 rd_d_X9_gainOf_33 rfl ?_
    refine kr_iload_n 2 rd_d_X9_gainOf_34 rfl ?_
    refine rd_call G (T2 := tX9_takesOf) rfl rd_d_X9_gainOf_35 rd_k_X9_gainOf_35 rfl (hS.1 4 (.inl 9) rfl) (as := [.int a]) (st := [.int t, .ref 4]) rfl (Nat.le_of_ble_eq_true rfl) rfl (Nat.le_of_ble_eq_true rfl) (d1 := 2) (by decide) (fun _ h => by cases h.1) (ax_tak G hS a) ?_
    intro v3 σ3 ⟨hv3, hs3⟩
    cases hv3
    rw [hs3]
    refine kr_iadd rd_d_X9_gainOf_38 ?_
    refine rd_call G (T2 := tX9_weightFrom) rfl rd_d_X9_gainOf_39 rd_k_X9_gainOf_39 rfl (hS.1 4 (.inl 9) rfl) (as := [.int (t + (ax_f_tak σ.2.1 a))]) (st := []) rfl (Nat.le_of_ble_eq_true rfl) rfl (Nat.le_of_ble_eq_true rfl) (d1 := 1) (by decide) (fun _ h => by cases h.1) (ax_wf G hS (t + (ax_f_tak σ.2.1 a)) hb) ?_
    intro v4 σ4 ⟨hv4, hs4⟩
    cases hv4
    rw [hs4]
    refine kr_istore (lv' := [(5, .int (ax_f_wf σ.2.1 (t + (ax_f_tak σ.2.1 a)))), (4, .int (ax_f_wf σ.2.1 (t + 1))), (0, .ref 4), (1, .int a), (2, .int b), (3, .int t)]) rd_d_X9_gainOf_42 (by decide) rfl ?_
    refine kr_aload_n 2 rd_d_X9_gainOf_44 rfl ?_
    refine kr_iload_n 3 rd_d_X9_gainOf_45 rfl ?_
    refine rd_call G (T2 := tX9_priceOf) rfl rd_d_X9_gainOf_46 rd_k_X9_gainOf_46 rfl (hS.1 4 (.inl 9) rfl) (as := [.int a]) (st := []) rfl (Nat.le_of_ble_eq_true rfl) rfl (Nat.le_of_ble_eq_true rfl) (d1 := 2) (by decide) (fun _ h => by cases h.1) (ax_pri G hS a) ?_
    intro v5 σ5 ⟨hv5, hs5⟩
    cases hv5
    rw [hs5]
    refine kr_bipush (v := 12) rd_d_X9_gainOf_49 (by decide) ?_
    refine kr_iload 0 rd_d_X9_gainOf_51 rfl ?_
    refine kr_imul rd_d_X9_gainOf_53 ?_
    refine kr_aload_n 2 rd_d_X9_gainOf_54 rfl ?_
    refine rd_call G (T2 := tX9_honest) rfl rd_d_X9_gainOf_55 rd_k_X9_gainOf_55 rfl (hS.1 4 (.inl 9) rfl) (as := []) (st := [.int (12 * (ax_f_wf σ.2.1 (t + (ax_f_tak σ.2.1 a)))), .int (ax_f_pri σ.2.1 a)]) rfl (Nat.le_of_ble_eq_true rfl) rfl (Nat.le_of_ble_eq_true rfl) (d1 := 2) (by decide) (fun _ h => by cases h.1) (ax_hon G hS) ?_
    intro v6 σ6 ⟨hv6, hs6⟩
    cases hv6
    rw [hs6]
    refine kr_iload 1 rd_d_X9_gainOf_58 rfl ?_
    refine kr_iload 0 rd_d_X9_gainOf_60 rfl ?_
    refine kr_isub rd_d_X9_gainOf_62 ?_
    refine kr_imul rd_d_X9_gainOf_63 ?_
    refine kr_iadd rd_d_X9_gainOf_64 ?_
    refine kr_imul rd_d_X9_gainOf_65 ?_
    exact kr_ireturn rd_d_X9_gainOf_66 (ty := .int) rfl rfl ⟨by rw [ax_f_gnX, if_neg h2], rfl⟩
  · refine kr_aload_n 1 rd_d_X9_gainOf_14 rfl ?_
    refine kr_iload_n 2 rd_d_X9_gainOf_15 rfl ?_
    refine rd_call G (T2 := tX9_priceOf) rfl rd_d_X9_gainOf_16 rd_k_X9_gainOf_16 rfl (hS.1 4 (.inl 9) rfl) (as := [.int a]) (st := []) rfl (Nat.le_of_ble_eq_true rfl) rfl (Nat.le_of_ble_eq_true rfl) (d1 := 2) (by decide) (fun _ h => by cases h.1) (ax_pri G hS a) ?_
    intro v7 σ7 ⟨hv7, hs7⟩
    cases hv7
    rw [hs7]
    refine kr_bipush (v := 12) rd_d_X9_gainOf_19 (by decide) ?_
    refine kr_aload_n 1 rd_d_X9_gainOf_21 rfl ?_
    refine rd_call G (T2 := tX9_shy) rfl rd_d_X9_gainOf_22 rd_k_X9_gainOf_22 rfl (hS.1 4 (.inl 9) rfl) (as := []) (st := [.int 12, .int (ax_f_pri σ.2.1 a)]) rfl (Nat.le_of_ble_eq_true rfl) rfl (Nat.le_of_ble_eq_true rfl) (d1 := 2) (by decide) (fun _ h => by cases h.1) (ax_shy G hS) ?_
    intro v8 σ8 ⟨hv8, hs8⟩
    cases hv8
    rw [hs8]
    refine kr_isub rd_d_X9_gainOf_25 ?_
    refine kr_imul rd_d_X9_gainOf_26 ?_
    refine kr_iload 0 rd_d_X9_gainOf_27 rfl ?_
    refine kr_imul rd_d_X9_gainOf_29 ?_
    exact kr_ireturn rd_d_X9_gainOf_30 (ty := .int) rfl rfl ⟨by rw [ax_f_gnX, if_pos h2], rfl⟩
def ax_f_gnM (s : Nat → Int32) (a b t : Int32) : Int32 := if b = 1 then ((s (2 + a.toInt.toNat)) * (12 - (s 57))) * (ax_f_sd (s) (t + 1)) else (s (2 + a.toInt.toNat)) * ((12 * (ax_f_sd (s) (t + (s (12 + a.toInt.toNat))))) + ((s 56) * ((ax_f_sd (s) (t + 1)) - (ax_f_sd (s) (t + (s (12 + a.toInt.toNat)))))))
theorem ax_gnM (G : sx_G0 g L xs z9 hd_C ex_mt) {σ : am_S} (hS : ax_S σ) (a b t : Int32) (hb : pl_B (σ.2.1 120)) (ha : 0 ≤ a.toInt ∧ a.toInt < 10) : am_K g 4 tX12_gainOf.1 0 0 0 (lv_args 0 [.ref 118, .int a, .int b, .int t]) [] σ (ax_R (ax_f_gnM (σ.2.1 120) a b t) σ) := by
  refine kr_aload_n 0 rd_d_X12_gainOf_0 rfl ?_
  refine kr_iload_n 3 rd_d_X12_gainOf_1 rfl ?_
  refine kr_iconst (v := 1) rd_d_X12_gainOf_2 (by decide) ?_
  refine kr_iadd rd_d_X12_gainOf_3 ?_
  refine rd_call G (T2 := tX12_standing) rfl rd_d_X12_gainOf_4 rd_k_X12_gainOf_4 rfl (hS.1 118 (.inl 12) rfl) (as := [.int (t + 1)]) (st := []) rfl (Nat.le_of_ble_eq_true rfl) rfl (Nat.le_of_ble_eq_true rfl) (d1 := 3) (by decide) (fun _ h => by cases h.1) (ax_sd G hS (t + 1) hb) ?_
  intro v1 σ1 ⟨hv1, hs1⟩
  cases hv1
  rw [hs1]
  refine kr_istore (lv' := [(4, .int (ax_f_sd (σ.2.1 120) (t + 1))), (0, .ref 118), (1, .int a), (2, .int b), (3, .int t)]) rd_d_X12_gainOf_7 (by decide) rfl ?_
  refine kr_iload_n 3 rd_d_X12_gainOf_9 rfl ?_
  refine kr_iconst (v := 1) rd_d_X12_gainOf_10 (by decide) ?_
  refine kr_icmp_ne (tgt := 37) rd_d_X12_gainOf_11 rfl (fun h2 => ?_) (fun h2 => ?_)
  · refine kr_aload_n 1 rd_d_X12_gainOf_37 rfl ?_
    refine kr_iload_n 4 rd_d_X12_gainOf_38 rfl ?_
    refine kr_aload_n 1 rd_d_X12_gainOf_39 rfl ?_
    refine kr_getf G.1 (rd_FL rd_k_X12_gainOf_40).1 rd_d_X12_gainOf_40 (hS.1 118 (.inl 12) rfl) (v := .ref 120) (by unfold am_fa; rw [(rd_FL rd_k_X12_gainOf_40).2]; exact hS.2 118 6 120 rfl) ?_
    refine kr_bipush (v := 12) rd_d_X12_gainOf_43 (by decide) ?_
    refine kr_iload_n 2 rd_d_X12_gainOf_45 rfl ?_
    refine kr_iadd rd_d_X12_gainOf_46 ?_
    refine kr_iald G.1 (n := 277) rd_d_X12_gainOf_47 (hS.1 120 (.inr (.int, 277)) rfl) (hd_in (n := 12 + a.toInt.toNat) (ax_ixn (C := 12) (by decide) (by decide) ⟨ha.1, Int.lt_trans ha.2 (by decide)⟩) (by omega)) ?_
    rw [hd_clamp (n := 12 + a.toInt.toNat) (ax_ixn (C := 12) (by decide) (by decide) ⟨ha.1, Int.lt_trans ha.2 (by decide)⟩)]
    refine kr_iadd rd_d_X12_gainOf_48 ?_
    refine rd_call G (T2 := tX12_standing) rfl rd_d_X12_gainOf_49 rd_k_X12_gainOf_49 rfl (hS.1 118 (.inl 12) rfl) (as := [.int (t + (σ.2.1 120 (12 + a.toInt.toNat)))]) (st := []) rfl (Nat.le_of_ble_eq_true rfl) rfl (Nat.le_of_ble_eq_true rfl) (d1 := 3) (by decide) (fun _ h => by cases h.1) (ax_sd G hS (t + (σ.2.1 120 (12 + a.toInt.toNat))) hb) ?_
    intro v3 σ3 ⟨hv3, hs3⟩
    cases hv3
    rw [hs3]
    refine kr_istore (lv' := [(5, .int (ax_f_sd (σ.2.1 120) (t + (σ.2.1 120 (12 + a.toInt.toNat))))), (4, .int (ax_f_sd (σ.2.1 120) (t + 1))), (0, .ref 118), (1, .int a), (2, .int b), (3, .int t)]) rd_d_X12_gainOf_52 (by decide) rfl ?_
    refine kr_aload_n 2 rd_d_X12_gainOf_54 rfl ?_
    refine kr_getf G.1 (rd_FL rd_k_X12_gainOf_55).1 rd_d_X12_gainOf_55 (hS.1 118 (.inl 12) rfl) (v := .ref 120) (by unfold am_fa; rw [(rd_FL rd_k_X12_gainOf_55).2]; exact hS.2 118 6 120 rfl) ?_
    refine kr_iconst (v := 2) rd_d_X12_gainOf_58 (by decide) ?_
    refine kr_iload_n 3 rd_d_X12_gainOf_59 rfl ?_
    refine kr_iadd rd_d_X12_gainOf_60 ?_
    refine kr_iald G.1 (n := 277) rd_d_X12_gainOf_61 (hS.1 120 (.inr (.int, 277)) rfl) (hd_in (n := 2 + a.toInt.toNat) (ax_ixn (C := 2) (by decide) (by decide) ⟨ha.1, Int.lt_trans ha.2 (by decide)⟩) (by omega)) ?_
    rw [hd_clamp (n := 2 + a.toInt.toNat) (ax_ixn (C := 2) (by decide) (by decide) ⟨ha.1, Int.lt_trans ha.2 (by decide)⟩)]
    refine kr_bipush (v := 12) rd_d_X12_gainOf_62 (by decide) ?_
    refine kr_iload 0 rd_d_X12_gainOf_64 rfl ?_
    refine kr_imul rd_d_X12_gainOf_66 ?_
    refine kr_aload_n 2 rd_d_X12_gainOf_67 rfl ?_
    refine kr_getf G.1 (rd_FL rd_k_X12_gainOf_68).1 rd_d_X12_gainOf_68 (hS.1 118 (.inl 12) rfl) (v := .ref 120) (by unfold am_fa; rw [(rd_FL rd_k_X12_gainOf_68).2]; exact hS.2 118 6 120 rfl) ?_
    refine kr_bipush (v := 56) rd_d_X12_gainOf_71 (by decide) ?_
    refine kr_iald G.1 (n := 277) rd_d_X12_gainOf_73 (hS.1 120 (.inr (.int, 277)) rfl) (hd_in (n := 56) (by decide) (by decide)) ?_
    rw [hd_clamp (n := 56) (by decide)]
    refine kr_iload 1 rd_d_X12_gainOf_74 rfl ?_
    refine kr_iload 0 rd_d_X12_gainOf_76 rfl ?_
    refine kr_isub rd_d_X12_gainOf_78 ?_
    refine kr_imul rd_d_X12_gainOf_79 ?_
    refine kr_iadd rd_d_X12_gainOf_80 ?_
    refine kr_imul rd_d_X12_gainOf_81 ?_
    exact kr_ireturn rd_d_X12_gainOf_82 (ty := .int) rfl rfl ⟨by rw [ax_f_gnM, if_neg h2], rfl⟩
  · refine kr_aload_n 1 rd_d_X12_gainOf_14 rfl ?_
    refine kr_getf G.1 (rd_FL rd_k_X12_gainOf_15).1 rd_d_X12_gainOf_15 (hS.1 118 (.inl 12) rfl) (v := .ref 120) (by unfold am_fa; rw [(rd_FL rd_k_X12_gainOf_15).2]; exact hS.2 118 6 120 rfl) ?_
    refine kr_iconst (v := 2) rd_d_X12_gainOf_18 (by decide) ?_
    refine kr_iload_n 2 rd_d_X12_gainOf_19 rfl ?_
    refine kr_iadd rd_d_X12_gainOf_20 ?_
    refine kr_iald G.1 (n := 277) rd_d_X12_gainOf_21 (hS.1 120 (.inr (.int, 277)) rfl) (hd_in (n := 2 + a.toInt.toNat) (ax_ixn (C := 2) (by decide) (by decide) ⟨ha.1, Int.lt_trans ha.2 (by decide)⟩) (by omega)) ?_
    rw [hd_clamp (n := 2 + a.toInt.toNat) (ax_ixn (C := 2) (by decide) (by decide) ⟨ha.1, Int.lt_trans ha.2 (by decide)⟩)]
    refine kr_bipush (v := 12) rd_d_X12_gainOf_22 (by decide) ?_
    refine kr_aload_n 1 rd_d_X12_gainOf_24 rfl ?_
    refine kr_getf G.1 (rd_FL rd_k_X12_gainOf_25).1 rd_d_X12_gainOf_25 (hS.1 118 (.inl 12) rfl) (v := .ref 120) (by unfold am_fa; rw [(rd_FL rd_k_X12_gainOf_25).2]; exact hS.2 118 6 120 rfl) ?_
    refine kr_bipush (v := 57) rd_d_X12_gainOf_28 (by decide) ?_
    refine kr_iald G.1 (n := 277) rd_d_X12_gainOf_30 (hS.1 120 (.inr (.int, 277)) rfl) (hd_in (n := 57) (by decide) (by decide)) ?_
    rw [hd_clamp (n := 57) (by decide)]
    refine kr_isub rd_d_X12_gainOf_31 ?_
    refine kr_imul rd_d_X12_gainOf_32 ?_
    refine kr_iload 0 rd_d_X12_gainOf_33 rfl ?_
    refine kr_imul rd_d_X12_gainOf_35 ?_
    exact kr_ireturn rd_d_X12_gainOf_36 (ty := .int) rfl rfl ⟨by rw [ax_f_gnM, if_pos h2], rfl⟩
theorem gn_eq {m : Nat → Nat → Int32} {s : Nat → Int32} (h : pl_R m 4 s) (b : pl_B s) {a : Int32} (ha : ¬ ax_f_win s a = 0) (c t : Int32) : ax_f_gnX m a c t = ax_f_gnM s a c t := by
  have e0 : ax_f_pri m a = s (2 + a.toInt.toNat) := ax_rowE h b ha (r := 0) (by decide)
  have e1 : ax_f_tak m a = s (12 + a.toInt.toNat) := ax_rowE h b ha (r := 1) (by decide)
  have e2 : ax_f_shy m = s 57 := ax_setE h (a := 3) (j := 3) rfl (by decide)
  have e3 : ax_f_hon m = s 56 := ax_setE h (a := 2) (j := 2) rfl (by decide)
  rw [ax_f_gnX, ax_f_gnM, e0, e1, e2, e3, wf_eq h b, wf_eq h b]
def ax_f_bwX (m : Nat → Nat → Int32) (a t : Int32) : Int32 := if (ax_f_gnX m a 1 t) ≤ (ax_f_gnX m a 0 t) then 0 else 1
theorem ax_bwX (G : sx_G0 g L xs z9 hd_C ex_mt) {σ : am_S} (hS : ax_S σ) (a t : Int32) (hb : pl_Bm σ) : am_K g 4 tX9_betterWay.1 0 0 0 (lv_args 0 [.ref 4, .int a, .int t]) [] σ (ax_R (ax_f_bwX σ.2.1 a t) σ) := by
  refine kr_aload_n 0 rd_d_X9_betterWay_0 rfl ?_
  refine kr_iload_n 1 rd_d_X9_betterWay_1 rfl ?_
  refine kr_iconst (v := 1) rd_d_X9_betterWay_2 (by decide) ?_
  refine kr_iload_n 2 rd_d_X9_betterWay_3 rfl ?_
  refine rd_call G (T2 := tX9_gainOf) rfl rd_d_X9_betterWay_4 rd_k_X9_betterWay_4 rfl (hS.1 4 (.inl 9) rfl) (as := [.int a, .int 1, .int t]) (st := []) rfl (Nat.le_of_ble_eq_true rfl) rfl (Nat.le_of_ble_eq_true rfl) (d1 := 3) (by decide) (fun _ h => by cases h.1) (ax_gnX G hS a 1 t hb) ?_
  intro v1 σ1 ⟨hv1, hs1⟩
  cases hv1
  rw [hs1]
  refine kr_aload_n 0 rd_d_X9_betterWay_7 rfl ?_
  refine kr_iload_n 1 rd_d_X9_betterWay_8 rfl ?_
  refine kr_iconst (v := 0) rd_d_X9_betterWay_9 (by decide) ?_
  refine kr_iload_n 2 rd_d_X9_betterWay_10 rfl ?_
  refine rd_call G (T2 := tX9_gainOf) rfl rd_d_X9_betterWay_11 rd_k_X9_betterWay_11 rfl (hS.1 4 (.inl 9) rfl) (as := [.int a, .int 0, .int t]) (st := [.int (ax_f_gnX σ.2.1 a 1 t)]) rfl (Nat.le_of_ble_eq_true rfl) rfl (Nat.le_of_ble_eq_true rfl) (d1 := 3) (by decide) (fun _ h => by cases h.1) (ax_gnX G hS a 0 t hb) ?_
  intro v2 σ2 ⟨hv2, hs2⟩
  cases hv2
  rw [hs2]
  refine kr_icmp_le (tgt := 21) rd_d_X9_betterWay_14 rfl (fun h3 => ?_) (fun h3 => ?_)
  · refine kr_iconst (v := 0) rd_d_X9_betterWay_21 (by decide) ?_
    exact kr_ireturn rd_d_X9_betterWay_22 (ty := .int) rfl rfl ⟨by rw [ax_f_bwX, if_pos h3], rfl⟩
  · refine kr_iconst (v := 1) rd_d_X9_betterWay_17 (by decide) ?_
    refine kr_goto (tgt := 22) rd_d_X9_betterWay_18 rfl ?_
    exact kr_ireturn rd_d_X9_betterWay_22 (ty := .int) rfl rfl ⟨by rw [ax_f_bwX, if_neg h3], rfl⟩
def ax_f_bwM (s : Nat → Int32) (a t : Int32) : Int32 := if (ax_f_gnM (s) a 1 t) ≤ (ax_f_gnM (s) a 0 t) then 0 else 1
theorem ax_bwM (G : sx_G0 g L xs z9 hd_C ex_mt) {σ : am_S} (hS : ax_S σ) (a t : Int32) (hb : pl_B (σ.2.1 120)) (ha : 0 ≤ a.toInt ∧ a.toInt < 10) : am_K g 5 tX12_betterOf.1 0 0 0 (lv_args 0 [.ref 118, .int a, .int t]) [] σ (ax_R (ax_f_bwM (σ.2.1 120) a t) σ) := by
  refine kr_aload_n 0 rd_d_X12_betterOf_0 rfl ?_
  refine kr_iload_n 1 rd_d_X12_betterOf_1 rfl ?_
  refine kr_iconst (v := 1) rd_d_X12_betterOf_2 (by decide) ?_
  refine kr_iload_n 2 rd_d_X12_betterOf_3 rfl ?_
  refine rd_call G (T2 := tX12_gainOf) rfl rd_d_X12_betterOf_4 rd_k_X12_betterOf_4 rfl (hS.1 118 (.inl 12) rfl) (as := [.int a, .int 1, .int t]) (st := []) rfl (Nat.le_of_ble_eq_true rfl) rfl (Nat.le_of_ble_eq_true rfl) (d1 := 4) (by decide) (fun _ h => by cases h.1) (ax_gnM G hS a 1 t hb ha) ?_
  intro v1 σ1 ⟨hv1, hs1⟩
  cases hv1
  rw [hs1]
  refine kr_aload_n 0 rd_d_X12_betterOf_7 rfl ?_
  refine kr_iload_n 1 rd_d_X12_betterOf_8 rfl ?_
  refine kr_iconst (v := 0) rd_d_X12_betterOf_9 (by decide) ?_
  refine kr_iload_n 2 rd_d_X12_betterOf_10 rfl ?_
  refine rd_call G (T2 := tX12_gainOf) rfl rd_d_X12_betterOf_11 rd_k_X12_betterOf_11 rfl (hS.1 118 (.inl 12) rfl) (as := [.int a, .int 0, .int t]) (st := [.int (ax_f_gnM (σ.2.1 120) a 1 t)]) rfl (Nat.le_of_ble_eq_true rfl) rfl (Nat.le_of_ble_eq_true rfl) (d1 := 4) (by decide) (fun _ h => by cases h.1) (ax_gnM G hS a 0 t hb ha) ?_
  intro v2 σ2 ⟨hv2, hs2⟩
  cases hv2
  rw [hs2]
  refine kr_icmp_le (tgt := 21) rd_d_X12_betterOf_14 rfl (fun h3 => ?_) (fun h3 => ?_)
  · refine kr_iconst (v := 0) rd_d_X12_betterOf_21 (by decide) ?_
    exact kr_ireturn rd_d_X12_betterOf_22 (ty := .int) rfl rfl ⟨by rw [ax_f_bwM, if_pos h3], rfl⟩
  · refine kr_iconst (v := 1) rd_d_X12_betterOf_17 (by decide) ?_
    refine kr_goto (tgt := 22) rd_d_X12_betterOf_18 rfl ?_
    exact kr_ireturn rd_d_X12_betterOf_22 (ty := .int) rfl rfl ⟨by rw [ax_f_bwM, if_neg h3], rfl⟩
theorem bw_eq {m : Nat → Nat → Int32} {s : Nat → Int32} (h : pl_R m 4 s) (b : pl_B s) {a : Int32} (ha : ¬ ax_f_win s a = 0) (t : Int32) : ax_f_bwX m a t = ax_f_bwM s a t := by
  rw [ax_f_bwX, ax_f_bwM, gn_eq h b ha, gn_eq h b ha]
/-- what the numbers of the STATION keep to -/
def pl_B2 (s : Nat → Int32) : Prop := (∀ k, k < 10 → 0 ≤ (s (2 + k)).toInt ∧ (s (2 + k)).toInt ≤ 99) ∧ (0 ≤ (s 56).toInt ∧ (s 56).toInt ≤ 12) ∧ (0 ≤ (s 57).toInt ∧ (s 57).toInt ≤ 12) ∧ (0 ≤ (s 60).toInt ∧ (s 60).toInt ≤ 12) ∧ ∀ k, k < 6 → 0 ≤ (s (48 + k)).toInt ∧ (s (48 + k)).toInt ≤ 9
theorem pl_z2 : (∀ k, k < 10 → sx_atl (z9.1 120) (2 + k) = some (.ofNat 0, .ofNat 99, 409)) ∧ ∀ k, k < 6 → sx_atl (z9.1 120) (48 + k) = some (.ofNat 0, .ofNat 9, 414) := by decide +kernel
theorem pl_B2M {σe σ : am_S} {m : Nat} (hM : sx_M z9 hd_C σe m 0 σ) : pl_B2 (σ.2.1 120) := ⟨fun k hk => hM.2.2.1 120 (2 + k) _ _ _ (pl_z2.1 k hk), hM.2.2.1 120 56 _ _ _ rfl, hM.2.2.1 120 57 _ _ _ rfl, hM.2.2.1 120 60 _ _ _ rfl, fun k hk => hM.2.2.1 120 (48 + k) _ _ _ (pl_z2.2 k hk)⟩
theorem sd_b {s : Nat → Int32} (b : pl_B s) (b2 : pl_B2 s) (t : Int32) : ∀ (f j : Nat) (k z : Int32), k.toInt = (j : Int) → j + f = 6 → 0 ≤ z.toInt ∧ z.toInt ≤ 9 * (j : Int) → 0 ≤ (ax_l_sdM s t f k z).toInt ∧ (ax_l_sdM s t f k z).toInt ≤ 54 := by
  have hn := ax_many6 (s := s) b.2
  have z0 : ∀ x : Int32, x + 0 = x := fun x => Int32.add_zero x
  intro f
  induction f with
  | zero =>
    intro j k z ek hj hz
    rw [ax_l_sdM_zero, ax_s_sdM, if_pos (Int32.le_iff_toInt_le.mpr (by omega))]
    omega
  | succ f ih =>
    intro j k z ek hj hz
    rw [ax_l_sdM_succ, ax_s_sdM]
    split
    · omega
    · split
      · rw [z0]
        exact ih (j + 1) _ _ (ax_inc ek (by omega)) (by omega) (by omega)
      · have w : 0 ≤ (ax_f_wgtM s k k.toInt.toNat).toInt ∧ (ax_f_wgtM s k k.toInt.toNat).toInt ≤ 9 := by
          rw [ax_f_wgtM]
          split
          · decide
          · exact b2.2.2.2.2 k.toInt.toNat (by omega)
        have e := sx_addI z (ax_f_wgtM s k k.toInt.toNat) (by show (-2147483648 : Int) ≤ _; omega) (by show _ ≤ (2147483647 : Int); omega)
        exact ih (j + 1) _ _ (ax_inc ek (by omega)) (by omega) (by omega)
theorem sd_b6 {s : Nat → Int32} (b : pl_B s) (b2 : pl_B2 s) (t : Int32) : 0 ≤ (ax_f_sd s t).toInt ∧ (ax_f_sd s t).toInt ≤ 54 := by
  rw [ax_f_sd]
  exact sd_b b b2 t 6 0 0 0 rfl rfl (by decide)
theorem gn_b {s : Nat → Int32} (b : pl_B s) (b2 : pl_B2 s) {a : Int32} (ha : 0 ≤ a.toInt ∧ a.toInt < 10) (c t : Int32) : 0 ≤ (ax_f_gnM s a c t).toInt ∧ (ax_f_gnM s a c t).toInt ≤ 128304 := by
  have p := b2.1 a.toInt.toNat (by omega)
  have hh := b2.2.1
  have hs := b2.2.2.1
  have a1 := sd_b6 b b2 (t + 1)
  have a2 := sd_b6 b b2 (t + s (12 + a.toInt.toNat))
  have t12 : (12 : Int32).toInt = 12 := rfl
  rw [ax_f_gnM]
  generalize ax_f_sd s (t + 1) = u at *
  generalize ax_f_sd s (t + s (12 + a.toInt.toNat)) = v at *
  generalize s (2 + a.toInt.toNat) = q at *
  generalize s 56 = h at *
  generalize s 57 = y at *
  split
  · have e1 := sx_subI 12 y (by show (-2147483648 : Int) ≤ _; omega) (by show _ ≤ (2147483647 : Int); omega)
    have m1 : 0 ≤ q.toInt * (12 - y).toInt ∧ q.toInt * (12 - y).toInt ≤ 99 * 12 := ⟨Int.mul_nonneg p.1 (by omega), Int.mul_le_mul p.2 (by omega) (by omega) (by decide)⟩
    have e2 := sx_mulI q (12 - y) (by show (-2147483648 : Int) ≤ _; omega) (by show _ ≤ (2147483647 : Int); omega)
    have m2 : 0 ≤ (q * (12 - y)).toInt * u.toInt ∧ (q * (12 - y)).toInt * u.toInt ≤ 1188 * 54 := ⟨Int.mul_nonneg (by omega) a1.1, Int.mul_le_mul (by omega) a1.2 a1.1 (by decide)⟩
    have e3 := sx_mulI (q * (12 - y)) u (by show (-2147483648 : Int) ≤ _; omega) (by show _ ≤ (2147483647 : Int); omega)
    omega
  · have e1 := sx_mulI 12 v (by rw [t12]; show (-2147483648 : Int) ≤ _; omega) (by rw [t12]; show _ ≤ (2147483647 : Int); omega)
    rw [t12] at e1
    have e2 := sx_subI u v (by show (-2147483648 : Int) ≤ _; omega) (by show _ ≤ (2147483647 : Int); omega)
    have n1 : 0 ≤ h.toInt * u.toInt ∧ h.toInt * u.toInt ≤ 12 * u.toInt := ⟨Int.mul_nonneg hh.1 a1.1, Int.mul_le_mul_of_nonneg_right hh.2 a1.1⟩
    have n2 : 0 ≤ h.toInt * v.toInt ∧ h.toInt * v.toInt ≤ 12 * v.toInt := ⟨Int.mul_nonneg hh.1 a2.1, Int.mul_le_mul_of_nonneg_right hh.2 a2.1⟩
    have d1 : h.toInt * (u - v).toInt = h.toInt * u.toInt - h.toInt * v.toInt := by rw [e2, Int.mul_sub]
    have e3 := sx_mulI h (u - v) (by show (-2147483648 : Int) ≤ _; omega) (by show _ ≤ (2147483647 : Int); omega)
    have e4 := sx_addI (12 * v) (h * (u - v)) (by show (-2147483648 : Int) ≤ _; omega) (by show _ ≤ (2147483647 : Int); omega)
    have r1 : 0 ≤ (12 * v + h * (u - v)).toInt ∧ (12 * v + h * (u - v)).toInt ≤ 1296 := by omega
    have m2 : 0 ≤ q.toInt * (12 * v + h * (u - v)).toInt ∧ q.toInt * (12 * v + h * (u - v)).toInt ≤ 99 * 1296 := ⟨Int.mul_nonneg p.1 r1.1, Int.mul_le_mul p.2 r1.2 r1.1 (by decide)⟩
    have e5 := sx_mulI q (12 * v + h * (u - v)) (by show (-2147483648 : Int) ≤ _; omega) (by show _ ≤ (2147483647 : Int); omega)
    omega
def ax_f_bgX (m : Nat → Nat → Int32) (a t : Int32) : Int32 := ax_f_max (ax_f_gnX m a 0 t) (ax_f_gnX m a 1 t)
theorem ax_bgX (G : sx_G0 g L xs z9 hd_C ex_mt) {σ : am_S} (hS : ax_S σ) (a t : Int32) (hb : pl_Bm σ) : am_K g 4 tX9_betterGain.1 0 0 0 (lv_args 0 [.ref 4, .int a, .int t]) [] σ (ax_R (ax_f_bgX σ.2.1 a t) σ) := by
  refine kr_aload_n 0 rd_d_X9_betterGain_0 rfl ?_
  refine kr_iload_n 1 rd_d_X9_betterGain_1 rfl ?_
  refine kr_iconst (v := 0) rd_d_X9_betterGain_2 (by decide) ?_
  refine kr_iload_n 2 rd_d_X9_betterGain_3 rfl ?_
  refine rd_call G (T2 := tX9_gainOf) rfl rd_d_X9_betterGain_4 rd_k_X9_betterGain_4 rfl (hS.1 4 (.inl 9) rfl) (as := [.int a, .int 0, .int t]) (st := []) rfl (Nat.le_of_ble_eq_true rfl) rfl (Nat.le_of_ble_eq_true rfl) (d1 := 3) (by decide) (fun _ h => by cases h.1) (ax_gnX G hS a 0 t hb) ?_
  intro v1 σ1 ⟨hv1, hs1⟩
  cases hv1
  rw [hs1]
  refine kr_aload_n 0 rd_d_X9_betterGain_7 rfl ?_
  refine kr_iload_n 1 rd_d_X9_betterGain_8 rfl ?_
  refine kr_iconst (v := 1) rd_d_X9_betterGain_9 (by decide) ?_
  refine kr_iload_n 2 rd_d_X9_betterGain_10 rfl ?_
  refine rd_call G (T2 := tX9_gainOf) rfl rd_d_X9_betterGain_11 rd_k_X9_betterGain_11 rfl (hS.1 4 (.inl 9) rfl) (as := [.int a, .int 1, .int t]) (st := [.int (ax_f_gnX σ.2.1 a 0 t)]) rfl (Nat.le_of_ble_eq_true rfl) rfl (Nat.le_of_ble_eq_true rfl) (d1 := 3) (by decide) (fun _ h => by cases h.1) (ax_gnX G hS a 1 t hb) ?_
  intro v2 σ2 ⟨hv2, hs2⟩
  cases hv2
  rw [hs2]
  refine kr_mmax G.1 (ex_mem_ok (show ex_mem 262271 (Cond.methodLink tX9_betterGain.1.1.cls 128 Lib.Math.max.name) = true from rd_k_X9_betterGain_14)) rd_d_X9_betterGain_14 (by decide) (Nat.le_of_ble_eq_true rfl) ?_
  show am_K g 4 tX9_betterGain.1 0 0 17 [(0, .ref 4), (1, .int a), (2, .int t)] [.int (ax_f_max (ax_f_gnX σ.2.1 a 0 t) (ax_f_gnX σ.2.1 a 1 t))] σ _
  exact kr_ireturn rd_d_X9_betterGain_17 (ty := .int) rfl rfl ⟨rfl, rfl⟩
def ax_f_bgM (s : Nat → Int32) (a t : Int32) : Int32 := ax_f_gr (ax_f_gnM (s) a 0 t) (ax_f_gnM (s) a 1 t)
theorem ax_bgM (G : sx_G0 g L xs z9 hd_C ex_mt) {σ : am_S} (hS : ax_S σ) (a t : Int32) (hb : pl_B (σ.2.1 120)) (ha : 0 ≤ a.toInt ∧ a.toInt < 10) : am_K g 5 tX12_mostAt.1 0 0 0 (lv_args 0 [.ref 118, .int a, .int t]) [] σ (ax_R (ax_f_bgM (σ.2.1 120) a t) σ) := by
  refine kr_aload_n 0 rd_d_X12_mostAt_0 rfl ?_
  refine kr_iload_n 1 rd_d_X12_mostAt_1 rfl ?_
  refine kr_iconst (v := 0) rd_d_X12_mostAt_2 (by decide) ?_
  refine kr_iload_n 2 rd_d_X12_mostAt_3 rfl ?_
  refine rd_call G (T2 := tX12_gainOf) rfl rd_d_X12_mostAt_4 rd_k_X12_mostAt_4 rfl (hS.1 118 (.inl 12) rfl) (as := [.int a, .int 0, .int t]) (st := []) rfl (Nat.le_of_ble_eq_true rfl) rfl (Nat.le_of_ble_eq_true rfl) (d1 := 4) (by decide) (fun _ h => by cases h.1) (ax_gnM G hS a 0 t hb ha) ?_
  intro v1 σ1 ⟨hv1, hs1⟩
  cases hv1
  rw [hs1]
  refine kr_aload_n 0 rd_d_X12_mostAt_7 rfl ?_
  refine kr_iload_n 1 rd_d_X12_mostAt_8 rfl ?_
  refine kr_iconst (v := 1) rd_d_X12_mostAt_9 (by decide) ?_
  refine kr_iload_n 2 rd_d_X12_mostAt_10 rfl ?_
  refine rd_call G (T2 := tX12_gainOf) rfl rd_d_X12_mostAt_11 rd_k_X12_mostAt_11 rfl (hS.1 118 (.inl 12) rfl) (as := [.int a, .int 1, .int t]) (st := [.int (ax_f_gnM (σ.2.1 120) a 0 t)]) rfl (Nat.le_of_ble_eq_true rfl) rfl (Nat.le_of_ble_eq_true rfl) (d1 := 4) (by decide) (fun _ h => by cases h.1) (ax_gnM G hS a 1 t hb ha) ?_
  intro v2 σ2 ⟨hv2, hs2⟩
  cases hv2
  rw [hs2]
  refine rd_callS G (T2 := tX12_greater) rfl rd_d_X12_mostAt_14 rd_k_X12_mostAt_14 rfl rfl (as := [.int (ax_f_gnM (σ.2.1 120) a 0 t), .int (ax_f_gnM (σ.2.1 120) a 1 t)]) (st := []) rfl (Nat.le_of_ble_eq_true rfl) rfl (Nat.le_of_ble_eq_true rfl) (d1 := 1) (by decide) (fun _ h => by cases h.1) (ax_gr G hS (ax_f_gnM (σ.2.1 120) a 0 t) (ax_f_gnM (σ.2.1 120) a 1 t)) ?_
  intro v3 σ3 ⟨hv3, hs3⟩
  cases hv3
  rw [hs3]
  exact kr_ireturn rd_d_X12_mostAt_17 (ty := .int) rfl rfl ⟨rfl, rfl⟩
theorem bg_eq {m : Nat → Nat → Int32} {s : Nat → Int32} (h : pl_R m 4 s) (b : pl_B s) {a : Int32} (ha : ¬ ax_f_win s a = 0) (t : Int32) : ax_f_bgX m a t = ax_f_bgM s a t := by
  rw [ax_f_bgX, ax_f_bgM, gn_eq h b ha, gn_eq h b ha, ax_f_max, ax_f_gr]
  by_cases q : ax_f_gnM s a 0 t < ax_f_gnM s a 1 t
  · rw [if_pos q, if_pos (Int32.le_iff_toInt_le.mpr (by have := Int32.lt_iff_toInt_lt.mp q; omega))]
  · rw [if_neg q]
    by_cases q2 : ax_f_gnM s a 0 t ≤ ax_f_gnM s a 1 t
    · rw [if_pos q2]
      apply Int32.toInt_inj.mp
      have q3 : ¬ (ax_f_gnM s a 0 t).toInt < (ax_f_gnM s a 1 t).toInt := fun e => q (Int32.lt_iff_toInt_lt.mpr e)
      have := Int32.le_iff_toInt_le.mp q2
      omega
    · rw [if_neg q2]
theorem bg_b {s : Nat → Int32} (b : pl_B s) (b2 : pl_B2 s) {a : Int32} (ha : 0 ≤ a.toInt ∧ a.toInt < 10) (t : Int32) : 0 ≤ (ax_f_bgM s a t).toInt := by
  have g0 := gn_b b b2 ha 0 t
  have g1 := gn_b b b2 ha 1 t
  rw [ax_f_bgM, ax_f_gr]
  split
  · exact g1.1
  · exact g0.1
theorem ax_winV {s : Nat → Int32} (b : pl_B s) {a : Int32} (h : 0 ≤ a.toInt ∧ a.toInt < (s 0).toInt) : ¬ ax_f_win s a = 0 := by
  obtain ⟨⟨b1, b2⟩, -⟩ := b
  exact ax_isIn_v ⟨by omega, b2⟩ h
/-- the class's place -/
def ax_pl (m : Nat → Nat → Int32) : Nat → Nat → Int32 := fun o k => if o ≤ 11 then m o k else 0
theorem ax_plF {σ τ : am_S} {o ix : Nat} (hf : ∀ a b, ¬ (a = o ∧ b = ix) → τ.2.1 a b = σ.2.1 a b) (ho : 11 < o) : ax_pl τ.2.1 = ax_pl σ.2.1 := funext fun a => funext fun b => by
  unfold ax_pl
  split
  · exact hf a b (fun q => by omega)
  · rfl
theorem ax_120F {σ τ : am_S} {o ix : Nat} (hf : ∀ a b, ¬ (a = o ∧ b = ix) → τ.2.1 a b = σ.2.1 a b) (ho : o ≠ 120) : τ.2.1 120 = σ.2.1 120 := funext fun b => hf 120 b (fun q => ho q.1.symm)
theorem ax_plG {σ τ : am_S} {o : Nat} (hf : ∀ a b, a ≠ o → τ.2.1 a b = σ.2.1 a b) (ho : 11 < o) : ax_pl τ.2.1 = ax_pl σ.2.1 := funext fun a => funext fun b => by
  unfold ax_pl
  split
  · exact hf a b (by omega)
  · rfl
theorem ax_120G {σ τ : am_S} {o : Nat} (hf : ∀ a b, a ≠ o → τ.2.1 a b = σ.2.1 a b) (ho : o ≠ 120) : τ.2.1 120 = σ.2.1 120 := funext fun b => hf 120 b (fun q => ho q.symm)
theorem ax_putW (G : sx_G0 g L xs z9 hd_C ex_mt) {T : ex_T} {σ : am_S} (hS : ax_S σ) {o ci K p pc i : Nat} (hd : decode T.1.2.1 pc = .ok (.putfield i, 3)) (hk : ex_lk ex_mt T pc (.putfield i) [ci, K, 0, p] = true) (ho : σ.1[o]? = some (.inl ci)) {d mc ms : Nat} {lv : List (Nat × Value)} {st : List Value} {x : Int32} {post : Option (Option Value) → am_S → Prop} (kk : ∀ τ : am_S, ax_S τ → τ.2.1 o K = x → (∀ a b, ¬ (a = o ∧ b = K) → τ.2.1 a b = σ.2.1 a b) → am_K g d T.1 mc ms (pc + 3) lv st τ post) : am_K g d T.1 mc ms pc lv (.int x :: .ref o :: st) σ post := by
  have hty := (rd_FPi hk).2
  refine kr_putI G.1 (rd_FPi hk).1 hd ho (by rw [hty]; rfl) (by rw [hty]; rfl) (by rw [hty]; rfl) ?_
  exact kk _ hS (am_up_s _ _ _ _) (fun a b h => am_up_n _ _ h)
theorem ax_astW (G : sx_G0 g L xs z9 hd_C ex_mt) {T : ex_T} {σ : am_S} (hS : ax_S σ) {o n pc : Nat} (hd : decode T.1.2.1 pc = .ok (.iastore, 1)) (ho : σ.1[o]? = some (.inr (.int, n))) {i : Int32} {ix : Nat} (he : i.toInt = (ix : Int)) (hl : ix < n) {d mc ms : Nat} {lv : List (Nat × Value)} {st : List Value} {x : Int32} {post : Option (Option Value) → am_S → Prop} (kk : ∀ τ : am_S, ax_S τ → τ.2.1 o ix = x → (∀ a b, ¬ (a = o ∧ b = ix) → τ.2.1 a b = σ.2.1 a b) → am_K g d T.1 mc ms (pc + 1) lv st τ post) : am_K g d T.1 mc ms pc lv (.int x :: .int i :: .ref o :: st) σ post := by
  refine kr_iast G.1 hd ho (hd_in he hl) ?_
  rw [hd_clamp he]
  exact kk _ hS (am_up_s _ _ _ _) (fun a b h => am_up_n _ _ h)
/-- what n sales from t on gain -/
def pv_S (g : Nat → Nat) (tk t : Nat) : Nat → Nat
  | 0 => 0
  | n + 1 => pv_S g tk t n + g (t + n * tk)
/-- the most of v 0 .. v n, and the first place that has it -/
def pv_best (v : Nat → Nat) : Nat → Nat × Nat
  | 0 => (v 0, 0)
  | n + 1 => if (pv_best v n).1 < v (n + 1) then (v (n + 1), n + 1) else pv_best v n
theorem pv_best_c {v u : Nat → Nat} : ∀ {n : Nat}, (∀ k, k ≤ n → v k = u k) → pv_best v n = pv_best u n := by
  intro n
  induction n with
  | zero => intro h; rw [pv_best, pv_best, h 0 (Nat.le_refl _)]
  | succ n ih => intro h; rw [pv_best, pv_best, ih (fun k hk => h k (by omega)), h (n + 1) (Nat.le_refl _)]
theorem pv_best_0 {v : Nat → Nat} : ∀ {n : Nat}, (∀ k, k ≤ n → v k = 0) → pv_best v n = (0, 0) := by
  intro n
  induction n with
  | zero => intro h; rw [pv_best, h 0 (Nat.le_refl _)]
  | succ n ih => intro h; rw [pv_best, ih (fun k hk => h k (by omega)), h (n + 1) (Nat.le_refl _)]; rfl
theorem pv_best_le {v : Nat → Nat} {b : Nat} : ∀ {n : Nat}, (∀ k, k ≤ n → v k ≤ b) → (pv_best v n).1 ≤ b ∧ (pv_best v n).2 ≤ n := by
  intro n
  induction n with
  | zero => intro h; exact ⟨h 0 (Nat.le_refl _), Nat.le_refl _⟩
  | succ n ih =>
    intro h
    have i := ih (fun k hk => h k (by omega))
    rw [pv_best]
    split
    · exact ⟨h (n + 1) (Nat.le_refl _), Nat.le_refl _⟩
    · exact ⟨i.1, by omega⟩
theorem pv_best_arg (v : Nat → Nat) : ∀ n : Nat, (pv_best v n).2 ≤ n := by
  intro n
  induction n with
  | zero => exact Nat.le_refl _
  | succ n ih =>
    rw [pv_best]
    split
    · exact Nat.le_refl _
    · omega
theorem pv_S_0 {g : Nat → Nat} {tk t : Nat} (h : ∀ x, t ≤ x → g x = 0) : ∀ n, pv_S g tk t n = 0 := by
  intro n
  induction n with
  | zero => rfl
  | succ n ih => rw [pv_S, ih, h _ (Nat.le_add_right _ _)]
theorem pv_S_le {g : Nat → Nat} {b : Nat} (h : ∀ x, g x ≤ b) (tk t : Nat) : ∀ n, pv_S g tk t n ≤ n * b := by
  intro n
  induction n with
  | zero => exact Nat.zero_le _
  | succ n ih =>
    rw [pv_S, Nat.succ_mul]
    have := h (t + n * tk)
    omega
/-- a row of windows: what it gains from t on with f fruits, and how many are sold at its first window -/
def pv (tk oft : Nat → Nat) (g : Nat → Nat → Nat) (wk : Nat) : List Nat → Nat → Nat → Nat × Nat
  | [], _, _ => (0, 0)
  | w :: ws, t, f => pv_best (fun n => pv_S (g w) (tk w) t n + (pv tk oft g wk ws (t + n * tk w + wk) (f - n)).1) (min f (oft w))
theorem pv_cons (tk oft : Nat → Nat) (g : Nat → Nat → Nat) (wk w : Nat) (ws : List Nat) (t f : Nat) : pv tk oft g wk (w :: ws) t f = pv_best (fun n => pv_S (g w) (tk w) t n + (pv tk oft g wk ws (t + n * tk w + wk) (f - n)).1) (min f (oft w)) := rfl
/-- late: nothing -/
theorem pv_late {tk oft : Nat → Nat} {g : Nat → Nat → Nat} {wk H : Nat} (h : ∀ w x, H ≤ x → g w x = 0) : ∀ (ws : List Nat) (t f : Nat), H ≤ t → pv tk oft g wk ws t f = (0, 0) := by
  intro ws
  induction ws with
  | nil => intro t f _; rfl
  | cons w ws ih =>
    intro t f ht
    rw [pv_cons]
    refine pv_best_0 (fun k _ => ?_)
    rw [pv_S_0 (fun x hx => h w x (by omega)), ih _ _ (by omega)]
    rfl
/-- so many fruits can be sold at most -/
def pv_U (oft : Nat → Nat) : List Nat → Nat
  | [] => 0
  | w :: ws => oft w + pv_U oft ws
theorem pv_use {tk oft : Nat → Nat} {g : Nat → Nat → Nat} {wk : Nat} : ∀ (ws : List Nat) (t f f' : Nat), pv_U oft ws ≤ f → pv_U oft ws ≤ f' → pv tk oft g wk ws t f = pv tk oft g wk ws t f' := by
  intro ws
  induction ws with
  | nil => intro t f f' _ _; rfl
  | cons w ws ih =>
    intro t f f' h h'
    have e : pv_U oft (w :: ws) = oft w + pv_U oft ws := rfl
    rw [e] at h h'
    rw [pv_cons, pv_cons, Nat.min_eq_right (by omega : oft w ≤ f), Nat.min_eq_right (by omega : oft w ≤ f')]
    refine pv_best_c (fun k hk => ?_)
    rw [ih (t + k * tk w + wk) (f - k) (f' - k) (by omega) (by omega)]
theorem pv_le {tk oft : Nat → Nat} {g : Nat → Nat → Nat} {wk b : Nat} (hg : ∀ w x, g w x ≤ b) : ∀ (ws : List Nat) (t f : Nat), (pv tk oft g wk ws t f).1 ≤ f * b := by
  intro ws
  induction ws with
  | nil => intro t f; exact Nat.zero_le _
  | cons w ws ih =>
    intro t f
    rw [pv_cons]
    refine (pv_best_le (b := f * b) (fun k hk => ?_)).1
    have h1 := pv_S_le (hg w) (tk w) t k
    have h2 := ih (t + k * tk w + wk) (f - k)
    have hk' : k ≤ f := Nat.le_trans hk (Nat.min_le_left _ _)
    have e : k * b + (f - k) * b = f * b := by rw [← Nat.add_mul, Nat.add_sub_cancel' hk']
    show pv_S (g w) (tk w) t k + (pv tk oft g wk ws (t + k * tk w + wk) (f - k)).1 ≤ f * b
    omega
def ax_f_les (a b : Int32) : Int32 := if b ≤ a then b else a
theorem ax_les (G : sx_G0 g L xs z9 hd_C ex_mt) {σ : am_S} (hS : ax_S σ) (a b : Int32) : am_K g 1 tX12_lesser.1 0 0 0 (lv_args 0 [.int a, .int b]) [] σ (ax_R (ax_f_les a b) σ) := by
  refine kr_iload_n 0 rd_d_X12_lesser_0 rfl ?_
  refine kr_iload_n 1 rd_d_X12_lesser_1 rfl ?_
  refine kr_icmp_ge (tgt := 9) rd_d_X12_lesser_2 rfl (fun h1 => ?_) (fun h1 => ?_)
  · refine kr_iload_n 1 rd_d_X12_lesser_9 rfl ?_
    exact kr_ireturn rd_d_X12_lesser_10 (ty := .int) rfl rfl ⟨by rw [ax_f_les, if_pos h1], rfl⟩
  · refine kr_iload_n 0 rd_d_X12_lesser_5 rfl ?_
    refine kr_goto (tgt := 10) rd_d_X12_lesser_6 rfl ?_
    exact kr_ireturn rd_d_X12_lesser_10 (ty := .int) rfl rfl ⟨by rw [ax_f_les, if_neg h1], rfl⟩
def ax_f_cel (a b c : Int32) : Int32 := (25 * ((62 * a) + b)) + c
theorem ax_cel (G : sx_G0 g L xs z9 hd_C ex_mt) {σ : am_S} (hS : ax_S σ) (a b c : Int32) : am_K g 1 tX12_cell.1 0 0 0 (lv_args 0 [.int a, .int b, .int c]) [] σ (ax_R (ax_f_cel a b c) σ) := by
  refine kr_bipush (v := 25) rd_d_X12_cell_0 (by decide) ?_
  refine kr_bipush (v := 62) rd_d_X12_cell_2 (by decide) ?_
  refine kr_iload_n 0 rd_d_X12_cell_4 rfl ?_
  refine kr_imul rd_d_X12_cell_5 ?_
  refine kr_iload_n 1 rd_d_X12_cell_6 rfl ?_
  refine kr_iadd rd_d_X12_cell_7 ?_
  refine kr_imul rd_d_X12_cell_8 ?_
  refine kr_iload_n 2 rd_d_X12_cell_9 rfl ?_
  refine kr_iadd rd_d_X12_cell_10 ?_
  exact kr_ireturn rd_d_X12_cell_11 (ty := .int) rfl rfl ⟨rfl, rfl⟩
def ax_f_cli (a : Int32) : Int32 := ax_f_les 61 a
theorem ax_cli (G : sx_G0 g L xs z9 hd_C ex_mt) {σ : am_S} (hS : ax_S σ) (a : Int32) : am_K g 2 tX12_clipped.1 0 0 0 (lv_args 0 [.int a]) [] σ (ax_R (ax_f_cli a) σ) := by
  refine kr_bipush (v := 61) rd_d_X12_clipped_0 (by decide) ?_
  refine kr_iload_n 0 rd_d_X12_clipped_2 rfl ?_
  refine rd_callS G (T2 := tX12_lesser) rfl rd_d_X12_clipped_3 rd_k_X12_clipped_3 rfl rfl (as := [.int 61, .int a]) (st := []) rfl (Nat.le_of_ble_eq_true rfl) rfl (Nat.le_of_ble_eq_true rfl) (d1 := 1) (by decide) (fun _ h => by cases h.1) (ax_les G hS 61 a) ?_
  intro v1 σ1 ⟨hv1, hs1⟩
  cases hv1
  rw [hs1]
  exact kr_ireturn rd_d_X12_clipped_6 (ty := .int) rfl rfl ⟨rfl, rfl⟩
theorem ch_mul {a b : Nat} {x y : Int32} (hx : x.toInt = (a : Int)) (hy : y.toInt = (b : Int)) {A B : Nat} (ha : a ≤ A) (hb : b ≤ B) (hAB : A * B ≤ 1000000) : (x * y).toInt = ((a * b : Nat) : Int) := by
  have h : a * b ≤ A * B := Nat.mul_le_mul ha hb
  have e : x.toInt * y.toInt = ((a * b : Nat) : Int) := by rw [hx, hy, Int.natCast_mul]
  rw [sx_mulI x y (by rw [e]; show (-2147483648 : Int) ≤ _; omega) (by rw [e]; show _ ≤ (2147483647 : Int); omega), e]
theorem ch_add {a b : Nat} {x y : Int32} (hx : x.toInt = (a : Int)) (hy : y.toInt = (b : Int)) (h : a + b ≤ 100000000) : (x + y).toInt = ((a + b : Nat) : Int) := by
  rw [sx_addI x y (by show (-2147483648 : Int) ≤ _; omega) (by show _ ≤ (2147483647 : Int); omega)]
  omega
theorem ch_sub {a b : Nat} {x y : Int32} (hx : x.toInt = (a : Int)) (hy : y.toInt = (b : Int)) (h : b ≤ a) : (x - y).toInt = ((a - b : Nat) : Int) := by
  have := Int32.toInt_lt x
  rw [sx_subI x y (by show (-2147483648 : Int) ≤ _; omega) (by show _ ≤ (2147483647 : Int); omega)]
  omega
theorem ch_cel {i t f : Nat} {a b c : Int32} (ha : a.toInt = (i : Int)) (hb : b.toInt = (t : Int)) (hc : c.toInt = (f : Int)) (h1 : i ≤ 9) (h2 : t ≤ 61) (h3 : f ≤ 24) : (ax_f_cel a b c).toInt = ((25 * (62 * i + t) + f : Nat) : Int) ∧ 25 * (62 * i + t) + f < 15500 := by
  have e1 := ch_mul (x := 62) (a := 62) rfl ha (A := 62) (B := 9) (Nat.le_refl _) h1 (by decide)
  have e2 := ch_add e1 hb (by omega)
  have e3 := ch_mul (x := 25) (a := 25) rfl e2 (A := 25) (B := 700) (Nat.le_refl _) (by omega) (by decide)
  have e4 := ch_add e3 hc (by omega)
  exact ⟨by rw [ax_f_cel]; exact e4, by omega⟩
theorem ch_cli {t : Nat} {a : Int32} (ha : a.toInt = (t : Int)) : (ax_f_cli a).toInt = ((min 61 t : Nat) : Int) := by
  have z : (61 : Int32).toInt = 61 := rfl
  rw [ax_f_cli, ax_f_les]
  split
  · rename_i h
    have := Int32.le_iff_toInt_le.mp h
    rw [ha, Nat.min_eq_right (by omega)]
  · rename_i h
    have : ¬ a.toInt ≤ (61 : Int32).toInt := fun q => h (Int32.le_iff_toInt_le.mpr q)
    rw [Nat.min_eq_left (by omega)]
    rfl
theorem ch_les {a b : Nat} {x y : Int32} (hx : x.toInt = (a : Int)) (hy : y.toInt = (b : Int)) : (ax_f_les x y).toInt = ((min a b : Nat) : Int) := by
  rw [ax_f_les]
  split
  · rename_i h
    have := Int32.le_iff_toInt_le.mp h
    rw [hy, Nat.min_eq_right (by omega)]
  · rename_i h
    have : ¬ y.toInt ≤ x.toInt := fun q => h (Int32.le_iff_toInt_le.mpr q)
    rw [hx, Nat.min_eq_left (by omega)]
theorem ch_ofN {x : Int32} {n : Nat} (h : x.toInt = (n : Int)) : x = Int32.ofNat n := by
  have := Int32.toInt_lt x
  apply Int32.toInt_inj.mp
  rw [Int32.toInt_ofNat_of_lt (by omega), h]
theorem ch_ixw {c w : Int32} {C n : Nat} (hc : c.toInt = (C : Int)) (hC : C < 1000) (hw : w.toInt = (n : Int)) (hn : n < 1000) : (c + w).toInt = ((C + n : Nat) : Int) := ch_add hc hw (by omega)
/-- at the head of the loop: what was found among the first j -/
def ch_I (v S : Nat → Nat) (j : Nat) (sum mn bs : Int32) : Prop := (j = 0 ∧ sum.toInt = 0 ∧ mn.toInt = 0 ∧ bs.toInt = -1) ∨ (∃ k, j = k + 1 ∧ sum.toInt = (S k : Int) ∧ mn.toInt = ((pv_best v k).2 : Int) ∧ bs.toInt = ((pv_best v k).1 : Int))
theorem ch_Is {v S : Nat → Nat} {j : Nat} {sum mn bs sum' x : Int32} {n : Int32} (h : ch_I v S j sum mn bs) (en : n.toInt = (j : Int)) (es : sum'.toInt = (S j : Int)) (ex : x.toInt = (v j : Int)) : (bs < x → ch_I v S (j + 1) sum' n x) ∧ (¬ bs < x → ch_I v S (j + 1) sum' mn bs) := by
  refine ⟨fun q => Or.inr ⟨j, rfl, es, ?_⟩, fun q => Or.inr ⟨j, rfl, es, ?_⟩⟩
  · have q' := Int32.lt_iff_toInt_lt.mp q
    rcases h with ⟨rfl, -, -, h4⟩ | ⟨k, rfl, -, -, h4⟩
    · exact ⟨by rw [en]; rfl, by rw [ex]; rfl⟩
    · rw [pv_best, if_pos (by omega)]
      exact ⟨en, ex⟩
  · have q' : ¬ bs.toInt < x.toInt := fun z => q (Int32.lt_iff_toInt_lt.mpr z)
    rcases h with ⟨rfl, -, -, h4⟩ | ⟨k, rfl, -, h3, h4⟩
    · omega
    · rw [pv_best, if_neg (by omega)]
      exact ⟨h3, h4⟩
/-- what is known where chooses looks -/
def ch_K (s : Nat → Int32) (m5 : Nat → Int32) (w : Int32) (ww TK OF WK : Nat) (gg : Nat → Nat) (ii T F : Nat) (la : Int32) (R : Nat → Nat) : Prop := (w.toInt = (ww : Int) ∧ ww < 10) ∧ ((s (12 + ww)).toInt = (TK : Int) ∧ TK ≤ 9) ∧ ((s (22 + ww)).toInt = (OF : Int) ∧ OF ≤ 3) ∧ ((s 54).toInt = (WK : Int) ∧ WK ≤ 5) ∧ (∀ x, x < 61 → (ax_f_bgM s w (Int32.ofNat x)).toInt = (gg x : Int)) ∧ (∀ x, 61 ≤ x → gg x = 0) ∧ (∀ x, gg x ≤ 128304) ∧ (∀ n, n ≤ min F OF → la = 0 → (m5 (25 * (62 * (ii + 1) + min 61 (T + n * TK + WK)) + (F - n))).toInt = (R n : Int)) ∧ (¬ la = 0 → ∀ n, R n = 0) ∧ ∀ n, R n ≤ 4000000
theorem ax_chL (G : sx_G0 g L xs z9 hd_C ex_mt) {σ : am_S} (hS : ax_S σ) (hb : pl_B (σ.2.1 120)) {i w t left la : Int32} {ii ww TK OF WK T F : Nat} {gg R : Nat → Nat} (ei : i.toInt = (ii : Int)) (et : t.toInt = (T : Int)) (ef : left.toInt = (F : Int)) (hT : T ≤ 61) (hF : F ≤ 24) (hi : ii ≤ 9) (hil : la = 0 → ii ≤ 8) (K : ch_K (σ.2.1 120) (σ.2.1 125) w ww TK OF WK gg ii T F la R) {post : Option (Option Value) → am_S → Prop} (kk : ∀ mn2 bs2 : Int32, mn2.toInt = ((pv_best (fun n => pv_S gg TK T n + R n) (min F OF)).2 : Int) → bs2.toInt = ((pv_best (fun n => pv_S gg TK T n + R n) (min F OF)).1 : Int) → am_K g 6 tX12_chooses.1 0 0 162 [(7, .int mn2), (6, .int bs2), (0, .ref 118), (1, .int i), (2, .int w), (3, .int t), (4, .int left), (5, .int la)] [] σ post) : ∀ (f j : Nat) (n sum mn bs : Int32), n.toInt = (j : Int) → j + f = min F OF + 1 → ch_I (fun n => pv_S gg TK T n + R n) (pv_S gg TK T) j sum mn bs → am_K g 6 tX12_chooses.1 0 0 12 [(9, .int n), (8, .int sum), (7, .int mn), (6, .int bs), (0, .ref 118), (1, .int i), (2, .int w), (3, .int t), (4, .int left), (5, .int la)] [] σ post := by
  obtain ⟨⟨ew, hw⟩, ⟨etk, htk⟩, ⟨eof, hof⟩, ⟨ewk, hwk⟩, hg1, hg2, hg3, hR1, hR2, hR3⟩ := K
  have hle := ch_les ef eof
  have ha : 0 ≤ w.toInt ∧ w.toInt < 10 := by omega
  intro f
  induction f with
  | zero =>
    intro j n sum mn bs en hj hI
    refine kr_iload 0 rd_d_X12_chooses_12 rfl ?_
    refine kr_iload 8 rd_d_X12_chooses_14 rfl ?_
    refine kr_aload_n 4 rd_d_X12_chooses_16 rfl ?_
    refine kr_getf G.1 (rd_FL rd_k_X12_chooses_17).1 rd_d_X12_chooses_17 (hS.1 118 (.inl 12) rfl) (v := .ref 120) (by unfold am_fa; rw [(rd_FL rd_k_X12_chooses_17).2]; exact hS.2 118 6 120 rfl) ?_
    refine kr_bipush (v := 22) rd_d_X12_chooses_20 (by decide) ?_
    refine kr_iload_n 6 rd_d_X12_chooses_22 rfl ?_
    refine kr_iadd rd_d_X12_chooses_23 ?_
    refine kr_iald G.1 (n := 277) rd_d_X12_chooses_24 (hS.1 120 (.inr (.int, 277)) rfl) (hd_in (n := 22 + ww) (ch_ixw (C := 22) (by decide) (by decide) ew (by omega)) (by omega)) ?_
    rw [hd_clamp (n := 22 + ww) (ch_ixw (C := 22) (by decide) (by decide) ew (by omega))]
    refine rd_callS G (T2 := tX12_lesser) rfl rd_d_X12_chooses_25 rd_k_X12_chooses_25 rfl rfl (as := [.int left, .int (σ.2.1 120 (22 + ww))]) (st := [.int n]) rfl (Nat.le_of_ble_eq_true rfl) rfl (Nat.le_of_ble_eq_true rfl) (d1 := 1) (by decide) (fun _ h => by cases h.1) (ax_les G hS left (σ.2.1 120 (22 + ww))) ?_
    intro v1 σ1 ⟨hv1, hs1⟩
    cases hv1
    rw [hs1]
    refine kr_icmp_gt (tgt := 162) rd_d_X12_chooses_28 rfl (fun h2 => ?_) (fun h2 => ?_)
    · refine kr_sub (lv' := [(7, .int mn), (6, .int bs), (0, .ref 118), (1, .int i), (2, .int w), (3, .int t), (4, .int left), (5, .int la)]) (by simp) ?_
      rcases hI with ⟨h0, -⟩ | ⟨k2, hk2, -, h3, h4⟩
      · omega
      · have : k2 = min F OF := by omega
        subst this
        exact kk mn bs h3 h4
    · exact absurd (Int32.lt_iff_toInt_lt.mpr (by omega)) h2
  | succ f ih =>
    intro j n sum mn bs en hj hI
    refine kr_iload 0 rd_d_X12_chooses_12 rfl ?_
    refine kr_iload 8 rd_d_X12_chooses_14 rfl ?_
    refine kr_aload_n 4 rd_d_X12_chooses_16 rfl ?_
    refine kr_getf G.1 (rd_FL rd_k_X12_chooses_17).1 rd_d_X12_chooses_17 (hS.1 118 (.inl 12) rfl) (v := .ref 120) (by unfold am_fa; rw [(rd_FL rd_k_X12_chooses_17).2]; exact hS.2 118 6 120 rfl) ?_
    refine kr_bipush (v := 22) rd_d_X12_chooses_20 (by decide) ?_
    refine kr_iload_n 6 rd_d_X12_chooses_22 rfl ?_
    refine kr_iadd rd_d_X12_chooses_23 ?_
    refine kr_iald G.1 (n := 277) rd_d_X12_chooses_24 (hS.1 120 (.inr (.int, 277)) rfl) (hd_in (n := 22 + ww) (ch_ixw (C := 22) (by decide) (by decide) ew (by omega)) (by omega)) ?_
    rw [hd_clamp (n := 22 + ww) (ch_ixw (C := 22) (by decide) (by decide) ew (by omega))]
    refine rd_callS G (T2 := tX12_lesser) rfl rd_d_X12_chooses_25 rd_k_X12_chooses_25 rfl rfl (as := [.int left, .int (σ.2.1 120 (22 + ww))]) (st := [.int n]) rfl (Nat.le_of_ble_eq_true rfl) rfl (Nat.le_of_ble_eq_true rfl) (d1 := 1) (by decide) (fun _ h => by cases h.1) (ax_les G hS left (σ.2.1 120 (22 + ww))) ?_
    intro v1 σ1 ⟨hv1, hs1⟩
    cases hv1
    rw [hs1]
    refine kr_icmp_gt (tgt := 162) rd_d_X12_chooses_28 rfl (fun h2 => ?_) (fun h2 => ?_)
    · refine kr_sub (lv' := [(7, .int mn), (6, .int bs), (0, .ref 118), (1, .int i), (2, .int w), (3, .int t), (4, .int left), (5, .int la)]) (by simp) ?_
      exact absurd (Int32.lt_iff_toInt_lt.mp h2) (by omega)
    · have hj2 : j ≤ min F OF := by omega
      have hj3 : j ≤ F ∧ j ≤ 3 := by omega
      have hth := ch_add et (ch_mul en etk (A := 3) (B := 9) hj3.2 htk (by decide)) (by have : j * TK ≤ 3 * 9 := Nat.mul_le_mul hj3.2 htk; omega)
      refine kr_iload_n 7 rd_d_X12_chooses_31 rfl ?_
      refine kr_iload 0 rd_d_X12_chooses_32 rfl ?_
      refine kr_aload_n 4 rd_d_X12_chooses_34 rfl ?_
      refine kr_getf G.1 (rd_FL rd_k_X12_chooses_35).1 rd_d_X12_chooses_35 (hS.1 118 (.inl 12) rfl) (v := .ref 120) (by unfold am_fa; rw [(rd_FL rd_k_X12_chooses_35).2]; exact hS.2 118 6 120 rfl) ?_
      refine kr_bipush (v := 12) rd_d_X12_chooses_38 (by decide) ?_
      refine kr_iload_n 6 rd_d_X12_chooses_40 rfl ?_
      refine kr_iadd rd_d_X12_chooses_41 ?_
      refine kr_iald G.1 (n := 277) rd_d_X12_chooses_42 (hS.1 120 (.inr (.int, 277)) rfl) (hd_in (n := 12 + ww) (ch_ixw (C := 12) (by decide) (by decide) ew (by omega)) (by omega)) ?_
      rw [hd_clamp (n := 12 + ww) (ch_ixw (C := 12) (by decide) (by decide) ew (by omega))]
      refine kr_imul rd_d_X12_chooses_43 ?_
      refine kr_iadd rd_d_X12_chooses_44 ?_
      refine kr_istore (lv' := [(10, .int (t + (n * (σ.2.1 120 (12 + ww))))), (9, .int n), (8, .int sum), (7, .int mn), (6, .int bs), (0, .ref 118), (1, .int i), (2, .int w), (3, .int t), (4, .int left), (5, .int la)]) rd_d_X12_chooses_45 (by decide) rfl ?_
      refine kr_iload 1 rd_d_X12_chooses_47 rfl ?_
      refine kr_if_le (tgt := 95) rd_d_X12_chooses_49 rfl (fun h21 => ?_) (fun h21 => ?_)
      · have j0 : j = 0 := by have := Int32.le_iff_toInt_le.mp h21; have z0 : (0 : Int32).toInt = 0 := rfl; omega
        have hsum : (sum).toInt = (pv_S gg TK T j : Int) := by subst j0; rcases hI with ⟨-, h2, -⟩ | ⟨k2, hk2, -⟩; exact h2; omega
        have hcel : (ax_f_cel (i + 1) (ax_f_cli (t + n * σ.2.1 120 (12 + ww) + σ.2.1 120 54)) (left - n)).toInt = ((25 * (62 * (ii + 1) + min 61 (T + j * TK + WK)) + (F - j) : Nat) : Int) ∨ True := Or.inr trivial
        refine kr_iload 2 rd_d_X12_chooses_95 rfl ?_
        refine kr_iload 10 rd_d_X12_chooses_97 rfl ?_
        refine kr_if_eq (tgt := 106) rd_d_X12_chooses_99 rfl (fun h41 => ?_) (fun h41 => ?_)
        · have hcl := ch_cel (ax_inc ei (by omega)) (ch_cli (ch_add hth ewk (by have : j * TK ≤ 3 * 9 := Nat.mul_le_mul hj3.2 htk; omega))) (ch_sub ef en hj3.1) (by have := hil h41; omega) (Nat.min_le_left _ _) (by omega)
          refine kr_aload_n 5 rd_d_X12_chooses_106 rfl ?_
          refine kr_getf G.1 (rd_FL rd_k_X12_chooses_107).1 rd_d_X12_chooses_107 (hS.1 118 (.inl 12) rfl) (v := .ref 125) (by unfold am_fa; rw [(rd_FL rd_k_X12_chooses_107).2]; exact hS.2 118 22 125 rfl) ?_
          refine kr_iload_n 6 rd_d_X12_chooses_110 rfl ?_
          refine kr_iconst (v := 1) rd_d_X12_chooses_111 (by decide) ?_
          refine kr_iadd rd_d_X12_chooses_112 ?_
          refine kr_iload 0 rd_d_X12_chooses_113 rfl ?_
          refine kr_aload_n 5 rd_d_X12_chooses_115 rfl ?_
          refine kr_getf G.1 (rd_FL rd_k_X12_chooses_116).1 rd_d_X12_chooses_116 (hS.1 118 (.inl 12) rfl) (v := .ref 120) (by unfold am_fa; rw [(rd_FL rd_k_X12_chooses_116).2]; exact hS.2 118 6 120 rfl) ?_
          refine kr_bipush (v := 54) rd_d_X12_chooses_119 (by decide) ?_
          refine kr_iald G.1 (n := 277) rd_d_X12_chooses_121 (hS.1 120 (.inr (.int, 277)) rfl) (hd_in (n := 54) (by decide) (by decide)) ?_
          rw [hd_clamp (n := 54) (by decide)]
          refine kr_iadd rd_d_X12_chooses_122 ?_
          refine rd_callS G (T2 := tX12_clipped) rfl rd_d_X12_chooses_123 rd_k_X12_chooses_123 rfl rfl (as := [.int ((t + (n * (σ.2.1 120 (12 + ww)))) + (σ.2.1 120 54))]) (st := [.int (i + 1), .ref 125, .int sum]) rfl (Nat.le_of_ble_eq_true rfl) rfl (Nat.le_of_ble_eq_true rfl) (d1 := 2) (by decide) (fun _ h => by cases h.1) (ax_cli G hS ((t + (n * (σ.2.1 120 (12 + ww)))) + (σ.2.1 120 54))) ?_
          intro v61 σ61 ⟨hv61, hs61⟩
          cases hv61
          rw [hs61]
          refine kr_iload 9 rd_d_X12_chooses_126 rfl ?_
          refine kr_iload 1 rd_d_X12_chooses_128 rfl ?_
          refine kr_isub rd_d_X12_chooses_130 ?_
          refine rd_callS G (T2 := tX12_cell) rfl rd_d_X12_chooses_131 rd_k_X12_chooses_131 rfl rfl (as := [.int (i + 1), .int (ax_f_cli ((t + (n * (σ.2.1 120 (12 + ww)))) + (σ.2.1 120 54))), .int (left - n)]) (st := [.ref 125, .int sum]) rfl (Nat.le_of_ble_eq_true rfl) rfl (Nat.le_of_ble_eq_true rfl) (d1 := 1) (by decide) (fun _ h => by cases h.1) (ax_cel G hS (i + 1) (ax_f_cli ((t + (n * (σ.2.1 120 (12 + ww)))) + (σ.2.1 120 54))) (left - n)) ?_
          intro v62 σ62 ⟨hv62, hs62⟩
          cases hv62
          rw [hs62]
          refine kr_iald G.1 (n := 15500) rd_d_X12_chooses_134 (hS.1 125 (.inr (.int, 15500)) rfl) (hd_in (n := 25 * (62 * (ii + 1) + min 61 (T + j * TK + WK)) + (F - j)) hcl.1 hcl.2) ?_
          rw [hd_clamp (n := 25 * (62 * (ii + 1) + min 61 (T + j * TK + WK)) + (F - j)) hcl.1]
          refine kr_iadd rd_d_X12_chooses_135 ?_
          refine kr_istore (lv' := [(11, .int (sum + (σ.2.1 125 (25 * (62 * (ii + 1) + min 61 (T + j * TK + WK)) + (F - j))))), (10, .int (t + (n * (σ.2.1 120 (12 + ww))))), (9, .int n), (8, .int sum), (7, .int mn), (6, .int bs), (0, .ref 118), (1, .int i), (2, .int w), (3, .int t), (4, .int left), (5, .int la)]) rd_d_X12_chooses_136 (by decide) rfl ?_
          have hv : (sum + (σ.2.1 125 (25 * (62 * (ii + 1) + min 61 (T + j * TK + WK)) + (F - j)))).toInt = ((fun n => pv_S gg TK T n + R n) j : Int) := ch_add hsum (hR1 j hj2 h41) (by have := hR3 j; have := pv_S_le hg3 TK T j; have : j * 128304 ≤ 3 * 128304 := Nat.mul_le_mul_right _ hj3.2; omega)
          refine kr_iload 0 rd_d_X12_chooses_138 rfl ?_
          refine kr_iload 5 rd_d_X12_chooses_140 rfl ?_
          refine kr_icmp_gt (tgt := 148) rd_d_X12_chooses_142 rfl (fun h81 => ?_) (fun h81 => ?_)
          · refine kr_iload 0 rd_d_X12_chooses_148 rfl ?_
            refine kr_istore (lv' := [(6, .int (sum + (σ.2.1 125 (25 * (62 * (ii + 1) + min 61 (T + j * TK + WK)) + (F - j))))), (11, .int (sum + (σ.2.1 125 (25 * (62 * (ii + 1) + min 61 (T + j * TK + WK)) + (F - j))))), (10, .int (t + (n * (σ.2.1 120 (12 + ww))))), (9, .int n), (8, .int sum), (7, .int mn), (0, .ref 118), (1, .int i), (2, .int w), (3, .int t), (4, .int left), (5, .int la)]) rd_d_X12_chooses_150 (by decide) rfl ?_
            refine kr_iload 3 rd_d_X12_chooses_152 rfl ?_
            refine kr_istore (lv' := [(7, .int n), (6, .int (sum + (σ.2.1 125 (25 * (62 * (ii + 1) + min 61 (T + j * TK + WK)) + (F - j))))), (11, .int (sum + (σ.2.1 125 (25 * (62 * (ii + 1) + min 61 (T + j * TK + WK)) + (F - j))))), (10, .int (t + (n * (σ.2.1 120 (12 + ww))))), (9, .int n), (8, .int sum), (0, .ref 118), (1, .int i), (2, .int w), (3, .int t), (4, .int left), (5, .int la)]) rd_d_X12_chooses_154 (by decide) rfl ?_
            refine kr_iinc (v := n + 1) (lv' := [(9, .int (n + 1)), (7, .int n), (6, .int (sum + (σ.2.1 125 (25 * (62 * (ii + 1) + min 61 (T + j * TK + WK)) + (F - j))))), (11, .int (sum + (σ.2.1 125 (25 * (62 * (ii + 1) + min 61 (T + j * TK + WK)) + (F - j))))), (10, .int (t + (n * (σ.2.1 120 (12 + ww))))), (8, .int sum), (0, .ref 118), (1, .int i), (2, .int w), (3, .int t), (4, .int left), (5, .int la)]) 4 rd_d_X12_chooses_156 rfl rfl (by decide) rfl ?_
            refine kr_goto (tgt := 12) rd_d_X12_chooses_159 rfl ?_
            refine kr_sub (lv' := [(9, .int (n + 1)), (8, .int sum), (7, .int n), (6, .int (sum + (σ.2.1 125 (25 * (62 * (ii + 1) + min 61 (T + j * TK + WK)) + (F - j))))), (0, .ref 118), (1, .int i), (2, .int w), (3, .int t), (4, .int left), (5, .int la)]) (by simp) ?_
            exact ih (j + 1) (n + 1) sum n (sum + (σ.2.1 125 (25 * (62 * (ii + 1) + min 61 (T + j * TK + WK)) + (F - j)))) (ax_inc en (by omega)) (by omega) ((ch_Is hI en hsum hv).1 h81)
          · refine kr_goto (tgt := 156) rd_d_X12_chooses_145 rfl ?_
            refine kr_iinc (v := n + 1) (lv' := [(9, .int (n + 1)), (11, .int (sum + (σ.2.1 125 (25 * (62 * (ii + 1) + min 61 (T + j * TK + WK)) + (F - j))))), (10, .int (t + (n * (σ.2.1 120 (12 + ww))))), (8, .int sum), (7, .int mn), (6, .int bs), (0, .ref 118), (1, .int i), (2, .int w), (3, .int t), (4, .int left), (5, .int la)]) 2 rd_d_X12_chooses_156 rfl rfl (by decide) rfl ?_
            refine kr_goto (tgt := 12) rd_d_X12_chooses_159 rfl ?_
            refine kr_sub (lv' := [(9, .int (n + 1)), (8, .int sum), (7, .int mn), (6, .int bs), (0, .ref 118), (1, .int i), (2, .int w), (3, .int t), (4, .int left), (5, .int la)]) (by simp) ?_
            exact ih (j + 1) (n + 1) sum mn bs (ax_inc en (by omega)) (by omega) ((ch_Is hI en hsum hv).2 h81)
        · refine kr_iconst (v := 0) rd_d_X12_chooses_102 (by decide) ?_
          refine kr_goto (tgt := 135) rd_d_X12_chooses_103 rfl ?_
          refine kr_iadd rd_d_X12_chooses_135 ?_
          refine kr_istore (lv' := [(11, .int (sum + 0)), (10, .int (t + (n * (σ.2.1 120 (12 + ww))))), (9, .int n), (8, .int sum), (7, .int mn), (6, .int bs), (0, .ref 118), (1, .int i), (2, .int w), (3, .int t), (4, .int left), (5, .int la)]) rd_d_X12_chooses_136 (by decide) rfl ?_
          have hv : (sum + 0).toInt = ((fun n => pv_S gg TK T n + R n) j : Int) := by rw [Int32.add_zero]; show _ = ((pv_S gg TK T j + R j : Nat) : Int); rw [hR2 h41]; exact hsum
          refine kr_iload 0 rd_d_X12_chooses_138 rfl ?_
          refine kr_iload 5 rd_d_X12_chooses_140 rfl ?_
          refine kr_icmp_gt (tgt := 148) rd_d_X12_chooses_142 rfl (fun h81 => ?_) (fun h81 => ?_)
          · refine kr_iload 0 rd_d_X12_chooses_148 rfl ?_
            refine kr_istore (lv' := [(6, .int (sum + 0)), (11, .int (sum + 0)), (10, .int (t + (n * (σ.2.1 120 (12 + ww))))), (9, .int n), (8, .int sum), (7, .int mn), (0, .ref 118), (1, .int i), (2, .int w), (3, .int t), (4, .int left), (5, .int la)]) rd_d_X12_chooses_150 (by decide) rfl ?_
            refine kr_iload 3 rd_d_X12_chooses_152 rfl ?_
            refine kr_istore (lv' := [(7, .int n), (6, .int (sum + 0)), (11, .int (sum + 0)), (10, .int (t + (n * (σ.2.1 120 (12 + ww))))), (9, .int n), (8, .int sum), (0, .ref 118), (1, .int i), (2, .int w), (3, .int t), (4, .int left), (5, .int la)]) rd_d_X12_chooses_154 (by decide) rfl ?_
            refine kr_iinc (v := n + 1) (lv' := [(9, .int (n + 1)), (7, .int n), (6, .int (sum + 0)), (11, .int (sum + 0)), (10, .int (t + (n * (σ.2.1 120 (12 + ww))))), (8, .int sum), (0, .ref 118), (1, .int i), (2, .int w), (3, .int t), (4, .int left), (5, .int la)]) 4 rd_d_X12_chooses_156 rfl rfl (by decide) rfl ?_
            refine kr_goto (tgt := 12) rd_d_X12_chooses_159 rfl ?_
            refine kr_sub (lv' := [(9, .int (n + 1)), (8, .int sum), (7, .int n), (6, .int (sum + 0)), (0, .ref 118), (1, .int i), (2, .int w), (3, .int t), (4, .int left), (5, .int la)]) (by simp) ?_
            exact ih (j + 1) (n + 1) sum n (sum + 0) (ax_inc en (by omega)) (by omega) ((ch_Is hI en hsum hv).1 h81)
          · refine kr_goto (tgt := 156) rd_d_X12_chooses_145 rfl ?_
            refine kr_iinc (v := n + 1) (lv' := [(9, .int (n + 1)), (11, .int (sum + 0)), (10, .int (t + (n * (σ.2.1 120 (12 + ww))))), (8, .int sum), (7, .int mn), (6, .int bs), (0, .ref 118), (1, .int i), (2, .int w), (3, .int t), (4, .int left), (5, .int la)]) 2 rd_d_X12_chooses_156 rfl rfl (by decide) rfl ?_
            refine kr_goto (tgt := 12) rd_d_X12_chooses_159 rfl ?_
            refine kr_sub (lv' := [(9, .int (n + 1)), (8, .int sum), (7, .int mn), (6, .int bs), (0, .ref 118), (1, .int i), (2, .int w), (3, .int t), (4, .int left), (5, .int la)]) (by simp) ?_
            exact ih (j + 1) (n + 1) sum mn bs (ax_inc en (by omega)) (by omega) ((ch_Is hI en hsum hv).2 h81)
      · refine kr_iload 2 rd_d_X12_chooses_52 rfl ?_
        refine kr_iload 0 rd_d_X12_chooses_54 rfl ?_
        refine kr_aload_n 5 rd_d_X12_chooses_56 rfl ?_
        refine kr_getf G.1 (rd_FL rd_k_X12_chooses_57).1 rd_d_X12_chooses_57 (hS.1 118 (.inl 12) rfl) (v := .ref 120) (by unfold am_fa; rw [(rd_FL rd_k_X12_chooses_57).2]; exact hS.2 118 6 120 rfl) ?_
        refine kr_bipush (v := 12) rd_d_X12_chooses_60 (by decide) ?_
        refine kr_iload_n 7 rd_d_X12_chooses_62 rfl ?_
        refine kr_iadd rd_d_X12_chooses_63 ?_
        refine kr_iald G.1 (n := 277) rd_d_X12_chooses_64 (hS.1 120 (.inr (.int, 277)) rfl) (hd_in (n := 12 + ww) (ch_ixw (C := 12) (by decide) (by decide) ew (by omega)) (by omega)) ?_
        rw [hd_clamp (n := 12 + ww) (ch_ixw (C := 12) (by decide) (by decide) ew (by omega))]
        refine kr_isub rd_d_X12_chooses_65 ?_
        refine kr_bipush (v := 61) rd_d_X12_chooses_66 (by decide) ?_
        refine kr_icmp_ge (tgt := 91) rd_d_X12_chooses_68 rfl (fun h22 => ?_) (fun h22 => ?_)
        · refine kr_iconst (v := 0) rd_d_X12_chooses_91 (by decide) ?_
          refine kr_iadd rd_d_X12_chooses_92 ?_
          refine kr_istore (lv' := [(8, .int (sum + 0)), (10, .int (t + (n * (σ.2.1 120 (12 + ww))))), (9, .int n), (7, .int mn), (6, .int bs), (0, .ref 118), (1, .int i), (2, .int w), (3, .int t), (4, .int left), (5, .int la)]) rd_d_X12_chooses_93 (by decide) rfl ?_
          obtain ⟨j1, rfl⟩ : ∃ j1, j = j1 + 1 := ⟨j - 1, by have z0 : (0 : Int32).toInt = 0 := rfl; have : ¬ n.toInt ≤ (0 : Int32).toInt := fun q => h21 (Int32.le_iff_toInt_le.mpr q); omega⟩
          have hs1 : sum.toInt = (pv_S gg TK T j1 : Int) := by rcases hI with ⟨h0, -⟩ | ⟨k2, hk2, h2, -⟩; omega; (have : k2 = j1 := by omega); subst this; exact h2
          have hdn : (t + n * σ.2.1 120 (12 + ww) - σ.2.1 120 (12 + ww)).toInt = ((T + j1 * TK : Nat) : Int) := by have e := ch_sub hth etk (by rw [Nat.succ_mul]; omega); rw [e, Nat.succ_mul]; congr 1; omega
          have hsl := pv_S_le hg3 TK T j1
          have hz : gg (T + j1 * TK) = 0 := hg2 _ (by have := Int32.le_iff_toInt_le.mp h22; have z : (61 : Int32).toInt = 61 := rfl; omega)
          have hsum : (sum + 0).toInt = (pv_S gg TK T (j1 + 1) : Int) := by rw [Int32.add_zero, pv_S, hz]; exact hs1
          have hcel : (ax_f_cel (i + 1) (ax_f_cli (t + n * σ.2.1 120 (12 + ww) + σ.2.1 120 54)) (left - n)).toInt = ((25 * (62 * (ii + 1) + min 61 (T + (j1 + 1) * TK + WK)) + (F - (j1 + 1)) : Nat) : Int) ∨ True := Or.inr trivial
          refine kr_iload 0 rd_d_X12_chooses_95 rfl ?_
          refine kr_iload 10 rd_d_X12_chooses_97 rfl ?_
          refine kr_if_eq (tgt := 106) rd_d_X12_chooses_99 rfl (fun h41 => ?_) (fun h41 => ?_)
          · have hcl := ch_cel (ax_inc ei (by omega)) (ch_cli (ch_add hth ewk (by have : (j1 + 1) * TK ≤ 3 * 9 := Nat.mul_le_mul hj3.2 htk; omega))) (ch_sub ef en hj3.1) (by have := hil h41; omega) (Nat.min_le_left _ _) (by omega)
            refine kr_aload_n 5 rd_d_X12_chooses_106 rfl ?_
            refine kr_getf G.1 (rd_FL rd_k_X12_chooses_107).1 rd_d_X12_chooses_107 (hS.1 118 (.inl 12) rfl) (v := .ref 125) (by unfold am_fa; rw [(rd_FL rd_k_X12_chooses_107).2]; exact hS.2 118 22 125 rfl) ?_
            refine kr_iload_n 6 rd_d_X12_chooses_110 rfl ?_
            refine kr_iconst (v := 1) rd_d_X12_chooses_111 (by decide) ?_
            refine kr_iadd rd_d_X12_chooses_112 ?_
            refine kr_iload 1 rd_d_X12_chooses_113 rfl ?_
            refine kr_aload_n 5 rd_d_X12_chooses_115 rfl ?_
            refine kr_getf G.1 (rd_FL rd_k_X12_chooses_116).1 rd_d_X12_chooses_116 (hS.1 118 (.inl 12) rfl) (v := .ref 120) (by unfold am_fa; rw [(rd_FL rd_k_X12_chooses_116).2]; exact hS.2 118 6 120 rfl) ?_
            refine kr_bipush (v := 54) rd_d_X12_chooses_119 (by decide) ?_
            refine kr_iald G.1 (n := 277) rd_d_X12_chooses_121 (hS.1 120 (.inr (.int, 277)) rfl) (hd_in (n := 54) (by decide) (by decide)) ?_
            rw [hd_clamp (n := 54) (by decide)]
            refine kr_iadd rd_d_X12_chooses_122 ?_
            refine rd_callS G (T2 := tX12_clipped) rfl rd_d_X12_chooses_123 rd_k_X12_chooses_123 rfl rfl (as := [.int ((t + (n * (σ.2.1 120 (12 + ww)))) + (σ.2.1 120 54))]) (st := [.int (i + 1), .ref 125, .int (sum + 0)]) rfl (Nat.le_of_ble_eq_true rfl) rfl (Nat.le_of_ble_eq_true rfl) (d1 := 2) (by decide) (fun _ h => by cases h.1) (ax_cli G hS ((t + (n * (σ.2.1 120 (12 + ww)))) + (σ.2.1 120 54))) ?_
            intro v61 σ61 ⟨hv61, hs61⟩
            cases hv61
            rw [hs61]
            refine kr_iload 9 rd_d_X12_chooses_126 rfl ?_
            refine kr_iload 2 rd_d_X12_chooses_128 rfl ?_
            refine kr_isub rd_d_X12_chooses_130 ?_
            refine rd_callS G (T2 := tX12_cell) rfl rd_d_X12_chooses_131 rd_k_X12_chooses_131 rfl rfl (as := [.int (i + 1), .int (ax_f_cli ((t + (n * (σ.2.1 120 (12 + ww)))) + (σ.2.1 120 54))), .int (left - n)]) (st := [.ref 125, .int (sum + 0)]) rfl (Nat.le_of_ble_eq_true rfl) rfl (Nat.le_of_ble_eq_true rfl) (d1 := 1) (by decide) (fun _ h => by cases h.1) (ax_cel G hS (i + 1) (ax_f_cli ((t + (n * (σ.2.1 120 (12 + ww)))) + (σ.2.1 120 54))) (left - n)) ?_
            intro v62 σ62 ⟨hv62, hs62⟩
            cases hv62
            rw [hs62]
            refine kr_iald G.1 (n := 15500) rd_d_X12_chooses_134 (hS.1 125 (.inr (.int, 15500)) rfl) (hd_in (n := 25 * (62 * (ii + 1) + min 61 (T + (j1 + 1) * TK + WK)) + (F - (j1 + 1))) hcl.1 hcl.2) ?_
            rw [hd_clamp (n := 25 * (62 * (ii + 1) + min 61 (T + (j1 + 1) * TK + WK)) + (F - (j1 + 1))) hcl.1]
            refine kr_iadd rd_d_X12_chooses_135 ?_
            refine kr_istore (lv' := [(11, .int ((sum + 0) + (σ.2.1 125 (25 * (62 * (ii + 1) + min 61 (T + (j1 + 1) * TK + WK)) + (F - (j1 + 1)))))), (8, .int (sum + 0)), (10, .int (t + (n * (σ.2.1 120 (12 + ww))))), (9, .int n), (7, .int mn), (6, .int bs), (0, .ref 118), (1, .int i), (2, .int w), (3, .int t), (4, .int left), (5, .int la)]) rd_d_X12_chooses_136 (by decide) rfl ?_
            have hv : ((sum + 0) + (σ.2.1 125 (25 * (62 * (ii + 1) + min 61 (T + (j1 + 1) * TK + WK)) + (F - (j1 + 1))))).toInt = ((fun n => pv_S gg TK T n + R n) (j1 + 1) : Int) := ch_add hsum (hR1 (j1 + 1) hj2 h41) (by have := hR3 (j1 + 1); have := pv_S_le hg3 TK T (j1 + 1); have : (j1 + 1) * 128304 ≤ 3 * 128304 := Nat.mul_le_mul_right _ hj3.2; omega)
            refine kr_iload 0 rd_d_X12_chooses_138 rfl ?_
            refine kr_iload 5 rd_d_X12_chooses_140 rfl ?_
            refine kr_icmp_gt (tgt := 148) rd_d_X12_chooses_142 rfl (fun h81 => ?_) (fun h81 => ?_)
            · refine kr_iload 0 rd_d_X12_chooses_148 rfl ?_
              refine kr_istore (lv' := [(6, .int ((sum + 0) + (σ.2.1 125 (25 * (62 * (ii + 1) + min 61 (T + (j1 + 1) * TK + WK)) + (F - (j1 + 1)))))), (11, .int ((sum + 0) + (σ.2.1 125 (25 * (62 * (ii + 1) + min 61 (T + (j1 + 1) * TK + WK)) + (F - (j1 + 1)))))), (8, .int (sum + 0)), (10, .int (t + (n * (σ.2.1 120 (12 + ww))))), (9, .int n), (7, .int mn), (0, .ref 118), (1, .int i), (2, .int w), (3, .int t), (4, .int left), (5, .int la)]) rd_d_X12_chooses_150 (by decide) rfl ?_
              refine kr_iload 4 rd_d_X12_chooses_152 rfl ?_
              refine kr_istore (lv' := [(7, .int n), (6, .int ((sum + 0) + (σ.2.1 125 (25 * (62 * (ii + 1) + min 61 (T + (j1 + 1) * TK + WK)) + (F - (j1 + 1)))))), (11, .int ((sum + 0) + (σ.2.1 125 (25 * (62 * (ii + 1) + min 61 (T + (j1 + 1) * TK + WK)) + (F - (j1 + 1)))))), (8, .int (sum + 0)), (10, .int (t + (n * (σ.2.1 120 (12 + ww))))), (9, .int n), (0, .ref 118), (1, .int i), (2, .int w), (3, .int t), (4, .int left), (5, .int la)]) rd_d_X12_chooses_154 (by decide) rfl ?_
              refine kr_iinc (v := n + 1) (lv' := [(9, .int (n + 1)), (7, .int n), (6, .int ((sum + 0) + (σ.2.1 125 (25 * (62 * (ii + 1) + min 61 (T + (j1 + 1) * TK + WK)) + (F - (j1 + 1)))))), (11, .int ((sum + 0) + (σ.2.1 125 (25 * (62 * (ii + 1) + min 61 (T + (j1 + 1) * TK + WK)) + (F - (j1 + 1)))))), (8, .int (sum + 0)), (10, .int (t + (n * (σ.2.1 120 (12 + ww))))), (0, .ref 118), (1, .int i), (2, .int w), (3, .int t), (4, .int left), (5, .int la)]) 5 rd_d_X12_chooses_156 rfl rfl (by decide) rfl ?_
              refine kr_goto (tgt := 12) rd_d_X12_chooses_159 rfl ?_
              refine kr_sub (lv' := [(9, .int (n + 1)), (8, .int (sum + 0)), (7, .int n), (6, .int ((sum + 0) + (σ.2.1 125 (25 * (62 * (ii + 1) + min 61 (T + (j1 + 1) * TK + WK)) + (F - (j1 + 1)))))), (0, .ref 118), (1, .int i), (2, .int w), (3, .int t), (4, .int left), (5, .int la)]) (by simp) ?_
              exact ih ((j1 + 1) + 1) (n + 1) (sum + 0) n ((sum + 0) + (σ.2.1 125 (25 * (62 * (ii + 1) + min 61 (T + (j1 + 1) * TK + WK)) + (F - (j1 + 1))))) (ax_inc en (by omega)) (by omega) ((ch_Is hI en hsum hv).1 h81)
            · refine kr_goto (tgt := 156) rd_d_X12_chooses_145 rfl ?_
              refine kr_iinc (v := n + 1) (lv' := [(9, .int (n + 1)), (11, .int ((sum + 0) + (σ.2.1 125 (25 * (62 * (ii + 1) + min 61 (T + (j1 + 1) * TK + WK)) + (F - (j1 + 1)))))), (8, .int (sum + 0)), (10, .int (t + (n * (σ.2.1 120 (12 + ww))))), (7, .int mn), (6, .int bs), (0, .ref 118), (1, .int i), (2, .int w), (3, .int t), (4, .int left), (5, .int la)]) 3 rd_d_X12_chooses_156 rfl rfl (by decide) rfl ?_
              refine kr_goto (tgt := 12) rd_d_X12_chooses_159 rfl ?_
              refine kr_sub (lv' := [(9, .int (n + 1)), (8, .int (sum + 0)), (7, .int mn), (6, .int bs), (0, .ref 118), (1, .int i), (2, .int w), (3, .int t), (4, .int left), (5, .int la)]) (by simp) ?_
              exact ih ((j1 + 1) + 1) (n + 1) (sum + 0) mn bs (ax_inc en (by omega)) (by omega) ((ch_Is hI en hsum hv).2 h81)
          · refine kr_iconst (v := 0) rd_d_X12_chooses_102 (by decide) ?_
            refine kr_goto (tgt := 135) rd_d_X12_chooses_103 rfl ?_
            refine kr_iadd rd_d_X12_chooses_135 ?_
            refine kr_istore (lv' := [(11, .int ((sum + 0) + 0)), (8, .int (sum + 0)), (10, .int (t + (n * (σ.2.1 120 (12 + ww))))), (9, .int n), (7, .int mn), (6, .int bs), (0, .ref 118), (1, .int i), (2, .int w), (3, .int t), (4, .int left), (5, .int la)]) rd_d_X12_chooses_136 (by decide) rfl ?_
            have hv : ((sum + 0) + 0).toInt = ((fun n => pv_S gg TK T n + R n) (j1 + 1) : Int) := by rw [Int32.add_zero]; show _ = ((pv_S gg TK T (j1 + 1) + R (j1 + 1) : Nat) : Int); rw [hR2 h41]; exact hsum
            refine kr_iload 0 rd_d_X12_chooses_138 rfl ?_
            refine kr_iload 5 rd_d_X12_chooses_140 rfl ?_
            refine kr_icmp_gt (tgt := 148) rd_d_X12_chooses_142 rfl (fun h81 => ?_) (fun h81 => ?_)
            · refine kr_iload 0 rd_d_X12_chooses_148 rfl ?_
              refine kr_istore (lv' := [(6, .int ((sum + 0) + 0)), (11, .int ((sum + 0) + 0)), (8, .int (sum + 0)), (10, .int (t + (n * (σ.2.1 120 (12 + ww))))), (9, .int n), (7, .int mn), (0, .ref 118), (1, .int i), (2, .int w), (3, .int t), (4, .int left), (5, .int la)]) rd_d_X12_chooses_150 (by decide) rfl ?_
              refine kr_iload 4 rd_d_X12_chooses_152 rfl ?_
              refine kr_istore (lv' := [(7, .int n), (6, .int ((sum + 0) + 0)), (11, .int ((sum + 0) + 0)), (8, .int (sum + 0)), (10, .int (t + (n * (σ.2.1 120 (12 + ww))))), (9, .int n), (0, .ref 118), (1, .int i), (2, .int w), (3, .int t), (4, .int left), (5, .int la)]) rd_d_X12_chooses_154 (by decide) rfl ?_
              refine kr_iinc (v := n + 1) (lv' := [(9, .int (n + 1)), (7, .int n), (6, .int ((sum + 0) + 0)), (11, .int ((sum + 0) + 0)), (8, .int (sum + 0)), (10, .int (t + (n * (σ.2.1 120 (12 + ww))))), (0, .ref 118), (1, .int i), (2, .int w), (3, .int t), (4, .int left), (5, .int la)]) 5 rd_d_X12_chooses_156 rfl rfl (by decide) rfl ?_
              refine kr_goto (tgt := 12) rd_d_X12_chooses_159 rfl ?_
              refine kr_sub (lv' := [(9, .int (n + 1)), (8, .int (sum + 0)), (7, .int n), (6, .int ((sum + 0) + 0)), (0, .ref 118), (1, .int i), (2, .int w), (3, .int t), (4, .int left), (5, .int la)]) (by simp) ?_
              exact ih ((j1 + 1) + 1) (n + 1) (sum + 0) n ((sum + 0) + 0) (ax_inc en (by omega)) (by omega) ((ch_Is hI en hsum hv).1 h81)
            · refine kr_goto (tgt := 156) rd_d_X12_chooses_145 rfl ?_
              refine kr_iinc (v := n + 1) (lv' := [(9, .int (n + 1)), (11, .int ((sum + 0) + 0)), (8, .int (sum + 0)), (10, .int (t + (n * (σ.2.1 120 (12 + ww))))), (7, .int mn), (6, .int bs), (0, .ref 118), (1, .int i), (2, .int w), (3, .int t), (4, .int left), (5, .int la)]) 3 rd_d_X12_chooses_156 rfl rfl (by decide) rfl ?_
              refine kr_goto (tgt := 12) rd_d_X12_chooses_159 rfl ?_
              refine kr_sub (lv' := [(9, .int (n + 1)), (8, .int (sum + 0)), (7, .int mn), (6, .int bs), (0, .ref 118), (1, .int i), (2, .int w), (3, .int t), (4, .int left), (5, .int la)]) (by simp) ?_
              exact ih ((j1 + 1) + 1) (n + 1) (sum + 0) mn bs (ax_inc en (by omega)) (by omega) ((ch_Is hI en hsum hv).2 h81)
        · refine kr_aload_n 5 rd_d_X12_chooses_71 rfl ?_
          refine kr_iload_n 7 rd_d_X12_chooses_72 rfl ?_
          refine kr_iload 0 rd_d_X12_chooses_73 rfl ?_
          refine kr_aload_n 5 rd_d_X12_chooses_75 rfl ?_
          refine kr_getf G.1 (rd_FL rd_k_X12_chooses_76).1 rd_d_X12_chooses_76 (hS.1 118 (.inl 12) rfl) (v := .ref 120) (by unfold am_fa; rw [(rd_FL rd_k_X12_chooses_76).2]; exact hS.2 118 6 120 rfl) ?_
          refine kr_bipush (v := 12) rd_d_X12_chooses_79 (by decide) ?_
          refine kr_iload_n 7 rd_d_X12_chooses_81 rfl ?_
          refine kr_iadd rd_d_X12_chooses_82 ?_
          refine kr_iald G.1 (n := 277) rd_d_X12_chooses_83 (hS.1 120 (.inr (.int, 277)) rfl) (hd_in (n := 12 + ww) (ch_ixw (C := 12) (by decide) (by decide) ew (by omega)) (by omega)) ?_
          rw [hd_clamp (n := 12 + ww) (ch_ixw (C := 12) (by decide) (by decide) ew (by omega))]
          refine kr_isub rd_d_X12_chooses_84 ?_
          refine rd_call G (T2 := tX12_mostAt) rfl rd_d_X12_chooses_85 rd_k_X12_chooses_85 rfl (hS.1 118 (.inl 12) rfl) (as := [.int w, .int ((t + (n * (σ.2.1 120 (12 + ww)))) - (σ.2.1 120 (12 + ww)))]) (st := [.int sum]) rfl (Nat.le_of_ble_eq_true rfl) rfl (Nat.le_of_ble_eq_true rfl) (d1 := 5) (by decide) (fun _ h => by cases h.1) (ax_bgM G hS w ((t + (n * (σ.2.1 120 (12 + ww)))) - (σ.2.1 120 (12 + ww))) hb ha) ?_
          intro v23 σ23 ⟨hv23, hs23⟩
          cases hv23
          rw [hs23]
          refine kr_goto (tgt := 92) rd_d_X12_chooses_88 rfl ?_
          refine kr_iadd rd_d_X12_chooses_92 ?_
          refine kr_istore (lv' := [(8, .int (sum + (ax_f_bgM (σ.2.1 120) w ((t + (n * (σ.2.1 120 (12 + ww)))) - (σ.2.1 120 (12 + ww)))))), (10, .int (t + (n * (σ.2.1 120 (12 + ww))))), (9, .int n), (7, .int mn), (6, .int bs), (0, .ref 118), (1, .int i), (2, .int w), (3, .int t), (4, .int left), (5, .int la)]) rd_d_X12_chooses_93 (by decide) rfl ?_
          obtain ⟨j1, rfl⟩ : ∃ j1, j = j1 + 1 := ⟨j - 1, by have z0 : (0 : Int32).toInt = 0 := rfl; have : ¬ n.toInt ≤ (0 : Int32).toInt := fun q => h21 (Int32.le_iff_toInt_le.mpr q); omega⟩
          have hs1 : sum.toInt = (pv_S gg TK T j1 : Int) := by rcases hI with ⟨h0, -⟩ | ⟨k2, hk2, h2, -⟩; omega; (have : k2 = j1 := by omega); subst this; exact h2
          have hdn : (t + n * σ.2.1 120 (12 + ww) - σ.2.1 120 (12 + ww)).toInt = ((T + j1 * TK : Nat) : Int) := by have e := ch_sub hth etk (by rw [Nat.succ_mul]; omega); rw [e, Nat.succ_mul]; congr 1; omega
          have hsl := pv_S_le hg3 TK T j1
          have hz : (ax_f_bgM (σ.2.1 120) w (t + n * σ.2.1 120 (12 + ww) - σ.2.1 120 (12 + ww))).toInt = (gg (T + j1 * TK) : Int) := by rw [ch_ofN hdn]; exact hg1 _ (by have : ¬ (61 : Int32).toInt ≤ (t + n * σ.2.1 120 (12 + ww) - σ.2.1 120 (12 + ww)).toInt := fun q => h22 (Int32.le_iff_toInt_le.mpr q); have z : (61 : Int32).toInt = 61 := rfl; omega)
          have hsum : (sum + (ax_f_bgM (σ.2.1 120) w ((t + (n * (σ.2.1 120 (12 + ww)))) - (σ.2.1 120 (12 + ww))))).toInt = (pv_S gg TK T (j1 + 1) : Int) := ch_add hs1 hz (by have := hg3 (T + j1 * TK); have : j1 * 128304 ≤ 3 * 128304 := Nat.mul_le_mul_right _ (by omega); omega)
          have hcel : (ax_f_cel (i + 1) (ax_f_cli (t + n * σ.2.1 120 (12 + ww) + σ.2.1 120 54)) (left - n)).toInt = ((25 * (62 * (ii + 1) + min 61 (T + (j1 + 1) * TK + WK)) + (F - (j1 + 1)) : Nat) : Int) ∨ True := Or.inr trivial
          refine kr_iload 0 rd_d_X12_chooses_95 rfl ?_
          refine kr_iload 10 rd_d_X12_chooses_97 rfl ?_
          refine kr_if_eq (tgt := 106) rd_d_X12_chooses_99 rfl (fun h41 => ?_) (fun h41 => ?_)
          · have hcl := ch_cel (ax_inc ei (by omega)) (ch_cli (ch_add hth ewk (by have : (j1 + 1) * TK ≤ 3 * 9 := Nat.mul_le_mul hj3.2 htk; omega))) (ch_sub ef en hj3.1) (by have := hil h41; omega) (Nat.min_le_left _ _) (by omega)
            refine kr_aload_n 5 rd_d_X12_chooses_106 rfl ?_
            refine kr_getf G.1 (rd_FL rd_k_X12_chooses_107).1 rd_d_X12_chooses_107 (hS.1 118 (.inl 12) rfl) (v := .ref 125) (by unfold am_fa; rw [(rd_FL rd_k_X12_chooses_107).2]; exact hS.2 118 22 125 rfl) ?_
            refine kr_iload_n 6 rd_d_X12_chooses_110 rfl ?_
            refine kr_iconst (v := 1) rd_d_X12_chooses_111 (by decide) ?_
            refine kr_iadd rd_d_X12_chooses_112 ?_
            refine kr_iload 1 rd_d_X12_chooses_113 rfl ?_
            refine kr_aload_n 5 rd_d_X12_chooses_115 rfl ?_
            refine kr_getf G.1 (rd_FL rd_k_X12_chooses_116).1 rd_d_X12_chooses_116 (hS.1 118 (.inl 12) rfl) (v := .ref 120) (by unfold am_fa; rw [(rd_FL rd_k_X12_chooses_116).2]; exact hS.2 118 6 120 rfl) ?_
            refine kr_bipush (v := 54) rd_d_X12_chooses_119 (by decide) ?_
            refine kr_iald G.1 (n := 277) rd_d_X12_chooses_121 (hS.1 120 (.inr (.int, 277)) rfl) (hd_in (n := 54) (by decide) (by decide)) ?_
            rw [hd_clamp (n := 54) (by decide)]
            refine kr_iadd rd_d_X12_chooses_122 ?_
            refine rd_callS G (T2 := tX12_clipped) rfl rd_d_X12_chooses_123 rd_k_X12_chooses_123 rfl rfl (as := [.int ((t + (n * (σ.2.1 120 (12 + ww)))) + (σ.2.1 120 54))]) (st := [.int (i + 1), .ref 125, .int (sum + (ax_f_bgM (σ.2.1 120) w ((t + (n * (σ.2.1 120 (12 + ww)))) - (σ.2.1 120 (12 + ww)))))]) rfl (Nat.le_of_ble_eq_true rfl) rfl (Nat.le_of_ble_eq_true rfl) (d1 := 2) (by decide) (fun _ h => by cases h.1) (ax_cli G hS ((t + (n * (σ.2.1 120 (12 + ww)))) + (σ.2.1 120 54))) ?_
            intro v61 σ61 ⟨hv61, hs61⟩
            cases hv61
            rw [hs61]
            refine kr_iload 9 rd_d_X12_chooses_126 rfl ?_
            refine kr_iload 2 rd_d_X12_chooses_128 rfl ?_
            refine kr_isub rd_d_X12_chooses_130 ?_
            refine rd_callS G (T2 := tX12_cell) rfl rd_d_X12_chooses_131 rd_k_X12_chooses_131 rfl rfl (as := [.int (i + 1), .int (ax_f_cli ((t + (n * (σ.2.1 120 (12 + ww)))) + (σ.2.1 120 54))), .int (left - n)]) (st := [.ref 125, .int (sum + (ax_f_bgM (σ.2.1 120) w ((t + (n * (σ.2.1 120 (12 + ww)))) - (σ.2.1 120 (12 + ww)))))]) rfl (Nat.le_of_ble_eq_true rfl) rfl (Nat.le_of_ble_eq_true rfl) (d1 := 1) (by decide) (fun _ h => by cases h.1) (ax_cel G hS (i + 1) (ax_f_cli ((t + (n * (σ.2.1 120 (12 + ww)))) + (σ.2.1 120 54))) (left - n)) ?_
            intro v62 σ62 ⟨hv62, hs62⟩
            cases hv62
            rw [hs62]
            refine kr_iald G.1 (n := 15500) rd_d_X12_chooses_134 (hS.1 125 (.inr (.int, 15500)) rfl) (hd_in (n := 25 * (62 * (ii + 1) + min 61 (T + (j1 + 1) * TK + WK)) + (F - (j1 + 1))) hcl.1 hcl.2) ?_
            rw [hd_clamp (n := 25 * (62 * (ii + 1) + min 61 (T + (j1 + 1) * TK + WK)) + (F - (j1 + 1))) hcl.1]
            refine kr_iadd rd_d_X12_chooses_135 ?_
            refine kr_istore (lv' := [(11, .int ((sum + (ax_f_bgM (σ.2.1 120) w ((t + (n * (σ.2.1 120 (12 + ww)))) - (σ.2.1 120 (12 + ww))))) + (σ.2.1 125 (25 * (62 * (ii + 1) + min 61 (T + (j1 + 1) * TK + WK)) + (F - (j1 + 1)))))), (8, .int (sum + (ax_f_bgM (σ.2.1 120) w ((t + (n * (σ.2.1 120 (12 + ww)))) - (σ.2.1 120 (12 + ww)))))), (10, .int (t + (n * (σ.2.1 120 (12 + ww))))), (9, .int n), (7, .int mn), (6, .int bs), (0, .ref 118), (1, .int i), (2, .int w), (3, .int t), (4, .int left), (5, .int la)]) rd_d_X12_chooses_136 (by decide) rfl ?_
            have hv : ((sum + (ax_f_bgM (σ.2.1 120) w ((t + (n * (σ.2.1 120 (12 + ww)))) - (σ.2.1 120 (12 + ww))))) + (σ.2.1 125 (25 * (62 * (ii + 1) + min 61 (T + (j1 + 1) * TK + WK)) + (F - (j1 + 1))))).toInt = ((fun n => pv_S gg TK T n + R n) (j1 + 1) : Int) := ch_add hsum (hR1 (j1 + 1) hj2 h41) (by have := hR3 (j1 + 1); have := pv_S_le hg3 TK T (j1 + 1); have : (j1 + 1) * 128304 ≤ 3 * 128304 := Nat.mul_le_mul_right _ hj3.2; omega)
            refine kr_iload 0 rd_d_X12_chooses_138 rfl ?_
            refine kr_iload 5 rd_d_X12_chooses_140 rfl ?_
            refine kr_icmp_gt (tgt := 148) rd_d_X12_chooses_142 rfl (fun h81 => ?_) (fun h81 => ?_)
            · refine kr_iload 0 rd_d_X12_chooses_148 rfl ?_
              refine kr_istore (lv' := [(6, .int ((sum + (ax_f_bgM (σ.2.1 120) w ((t + (n * (σ.2.1 120 (12 + ww)))) - (σ.2.1 120 (12 + ww))))) + (σ.2.1 125 (25 * (62 * (ii + 1) + min 61 (T + (j1 + 1) * TK + WK)) + (F - (j1 + 1)))))), (11, .int ((sum + (ax_f_bgM (σ.2.1 120) w ((t + (n * (σ.2.1 120 (12 + ww)))) - (σ.2.1 120 (12 + ww))))) + (σ.2.1 125 (25 * (62 * (ii + 1) + min 61 (T + (j1 + 1) * TK + WK)) + (F - (j1 + 1)))))), (8, .int (sum + (ax_f_bgM (σ.2.1 120) w ((t + (n * (σ.2.1 120 (12 + ww)))) - (σ.2.1 120 (12 + ww)))))), (10, .int (t + (n * (σ.2.1 120 (12 + ww))))), (9, .int n), (7, .int mn), (0, .ref 118), (1, .int i), (2, .int w), (3, .int t), (4, .int left), (5, .int la)]) rd_d_X12_chooses_150 (by decide) rfl ?_
              refine kr_iload 4 rd_d_X12_chooses_152 rfl ?_
              refine kr_istore (lv' := [(7, .int n), (6, .int ((sum + (ax_f_bgM (σ.2.1 120) w ((t + (n * (σ.2.1 120 (12 + ww)))) - (σ.2.1 120 (12 + ww))))) + (σ.2.1 125 (25 * (62 * (ii + 1) + min 61 (T + (j1 + 1) * TK + WK)) + (F - (j1 + 1)))))), (11, .int ((sum + (ax_f_bgM (σ.2.1 120) w ((t + (n * (σ.2.1 120 (12 + ww)))) - (σ.2.1 120 (12 + ww))))) + (σ.2.1 125 (25 * (62 * (ii + 1) + min 61 (T + (j1 + 1) * TK + WK)) + (F - (j1 + 1)))))), (8, .int (sum + (ax_f_bgM (σ.2.1 120) w ((t + (n * (σ.2.1 120 (12 + ww)))) - (σ.2.1 120 (12 + ww)))))), (10, .int (t + (n * (σ.2.1 120 (12 + ww))))), (9, .int n), (0, .ref 118), (1, .int i), (2, .int w), (3, .int t), (4, .int left), (5, .int la)]) rd_d_X12_chooses_154 (by decide) rfl ?_
              refine kr_iinc (v := n + 1) (lv' := [(9, .int (n + 1)), (7, .int n), (6, .int ((sum + (ax_f_bgM (σ.2.1 120) w ((t + (n * (σ.2.1 120 (12 + ww)))) - (σ.2.1 120 (12 + ww))))) + (σ.2.1 125 (25 * (62 * (ii + 1) + min 61 (T + (j1 + 1) * TK + WK)) + (F - (j1 + 1)))))), (11, .int ((sum + (ax_f_bgM (σ.2.1 120) w ((t + (n * (σ.2.1 120 (12 + ww)))) - (σ.2.1 120 (12 + ww))))) + (σ.2.1 125 (25 * (62 * (ii + 1) + min 61 (T + (j1 + 1) * TK + WK)) + (F - (j1 + 1)))))), (8, .int (sum + (ax_f_bgM (σ.2.1 120) w ((t + (n * (σ.2.1 120 (12 + ww)))) - (σ.2.1 120 (12 + ww)))))), (10, .int (t + (n * (σ.2.1 120 (12 + ww))))), (0, .ref 118), (1, .int i), (2, .int w), (3, .int t), (4, .int left), (5, .int la)]) 5 rd_d_X12_chooses_156 rfl rfl (by decide) rfl ?_
              refine kr_goto (tgt := 12) rd_d_X12_chooses_159 rfl ?_
              refine kr_sub (lv' := [(9, .int (n + 1)), (8, .int (sum + (ax_f_bgM (σ.2.1 120) w ((t + (n * (σ.2.1 120 (12 + ww)))) - (σ.2.1 120 (12 + ww)))))), (7, .int n), (6, .int ((sum + (ax_f_bgM (σ.2.1 120) w ((t + (n * (σ.2.1 120 (12 + ww)))) - (σ.2.1 120 (12 + ww))))) + (σ.2.1 125 (25 * (62 * (ii + 1) + min 61 (T + (j1 + 1) * TK + WK)) + (F - (j1 + 1)))))), (0, .ref 118), (1, .int i), (2, .int w), (3, .int t), (4, .int left), (5, .int la)]) (by simp) ?_
              exact ih ((j1 + 1) + 1) (n + 1) (sum + (ax_f_bgM (σ.2.1 120) w ((t + (n * (σ.2.1 120 (12 + ww)))) - (σ.2.1 120 (12 + ww))))) n ((sum + (ax_f_bgM (σ.2.1 120) w ((t + (n * (σ.2.1 120 (12 + ww)))) - (σ.2.1 120 (12 + ww))))) + (σ.2.1 125 (25 * (62 * (ii + 1) + min 61 (T + (j1 + 1) * TK + WK)) + (F - (j1 + 1))))) (ax_inc en (by omega)) (by omega) ((ch_Is hI en hsum hv).1 h81)
            · refine kr_goto (tgt := 156) rd_d_X12_chooses_145 rfl ?_
              refine kr_iinc (v := n + 1) (lv' := [(9, .int (n + 1)), (11, .int ((sum + (ax_f_bgM (σ.2.1 120) w ((t + (n * (σ.2.1 120 (12 + ww)))) - (σ.2.1 120 (12 + ww))))) + (σ.2.1 125 (25 * (62 * (ii + 1) + min 61 (T + (j1 + 1) * TK + WK)) + (F - (j1 + 1)))))), (8, .int (sum + (ax_f_bgM (σ.2.1 120) w ((t + (n * (σ.2.1 120 (12 + ww)))) - (σ.2.1 120 (12 + ww)))))), (10, .int (t + (n * (σ.2.1 120 (12 + ww))))), (7, .int mn), (6, .int bs), (0, .ref 118), (1, .int i), (2, .int w), (3, .int t), (4, .int left), (5, .int la)]) 3 rd_d_X12_chooses_156 rfl rfl (by decide) rfl ?_
              refine kr_goto (tgt := 12) rd_d_X12_chooses_159 rfl ?_
              refine kr_sub (lv' := [(9, .int (n + 1)), (8, .int (sum + (ax_f_bgM (σ.2.1 120) w ((t + (n * (σ.2.1 120 (12 + ww)))) - (σ.2.1 120 (12 + ww)))))), (7, .int mn), (6, .int bs), (0, .ref 118), (1, .int i), (2, .int w), (3, .int t), (4, .int left), (5, .int la)]) (by simp) ?_
              exact ih ((j1 + 1) + 1) (n + 1) (sum + (ax_f_bgM (σ.2.1 120) w ((t + (n * (σ.2.1 120 (12 + ww)))) - (σ.2.1 120 (12 + ww))))) mn bs (ax_inc en (by omega)) (by omega) ((ch_Is hI en hsum hv).2 h81)
          · refine kr_iconst (v := 0) rd_d_X12_chooses_102 (by decide) ?_
            refine kr_goto (tgt := 135) rd_d_X12_chooses_103 rfl ?_
            refine kr_iadd rd_d_X12_chooses_135 ?_
            refine kr_istore (lv' := [(11, .int ((sum + (ax_f_bgM (σ.2.1 120) w ((t + (n * (σ.2.1 120 (12 + ww)))) - (σ.2.1 120 (12 + ww))))) + 0)), (8, .int (sum + (ax_f_bgM (σ.2.1 120) w ((t + (n * (σ.2.1 120 (12 + ww)))) - (σ.2.1 120 (12 + ww)))))), (10, .int (t + (n * (σ.2.1 120 (12 + ww))))), (9, .int n), (7, .int mn), (6, .int bs), (0, .ref 118), (1, .int i), (2, .int w), (3, .int t), (4, .int left), (5, .int la)]) rd_d_X12_chooses_136 (by decide) rfl ?_
            have hv : ((sum + (ax_f_bgM (σ.2.1 120) w ((t + (n * (σ.2.1 120 (12 + ww)))) - (σ.2.1 120 (12 + ww))))) + 0).toInt = ((fun n => pv_S gg TK T n + R n) (j1 + 1) : Int) := by rw [Int32.add_zero]; show _ = ((pv_S gg TK T (j1 + 1) + R (j1 + 1) : Nat) : Int); rw [hR2 h41]; exact hsum
            refine kr_iload 0 rd_d_X12_chooses_138 rfl ?_
            refine kr_iload 5 rd_d_X12_chooses_140 rfl ?_
            refine kr_icmp_gt (tgt := 148) rd_d_X12_chooses_142 rfl (fun h81 => ?_) (fun h81 => ?_)
            · refine kr_iload 0 rd_d_X12_chooses_148 rfl ?_
              refine kr_istore (lv' := [(6, .int ((sum + (ax_f_bgM (σ.2.1 120) w ((t + (n * (σ.2.1 120 (12 + ww)))) - (σ.2.1 120 (12 + ww))))) + 0)), (11, .int ((sum + (ax_f_bgM (σ.2.1 120) w ((t + (n * (σ.2.1 120 (12 + ww)))) - (σ.2.1 120 (12 + ww))))) + 0)), (8, .int (sum + (ax_f_bgM (σ.2.1 120) w ((t + (n * (σ.2.1 120 (12 + ww)))) - (σ.2.1 120 (12 + ww)))))), (10, .int (t + (n * (σ.2.1 120 (12 + ww))))), (9, .int n), (7, .int mn), (0, .ref 118), (1, .int i), (2, .int w), (3, .int t), (4, .int left), (5, .int la)]) rd_d_X12_chooses_150 (by decide) rfl ?_
              refine kr_iload 4 rd_d_X12_chooses_152 rfl ?_
              refine kr_istore (lv' := [(7, .int n), (6, .int ((sum + (ax_f_bgM (σ.2.1 120) w ((t + (n * (σ.2.1 120 (12 + ww)))) - (σ.2.1 120 (12 + ww))))) + 0)), (11, .int ((sum + (ax_f_bgM (σ.2.1 120) w ((t + (n * (σ.2.1 120 (12 + ww)))) - (σ.2.1 120 (12 + ww))))) + 0)), (8, .int (sum + (ax_f_bgM (σ.2.1 120) w ((t + (n * (σ.2.1 120 (12 + ww)))) - (σ.2.1 120 (12 + ww)))))), (10, .int (t + (n * (σ.2.1 120 (12 + ww))))), (9, .int n), (0, .ref 118), (1, .int i), (2, .int w), (3, .int t), (4, .int left), (5, .int la)]) rd_d_X12_chooses_154 (by decide) rfl ?_
              refine kr_iinc (v := n + 1) (lv' := [(9, .int (n + 1)), (7, .int n), (6, .int ((sum + (ax_f_bgM (σ.2.1 120) w ((t + (n * (σ.2.1 120 (12 + ww)))) - (σ.2.1 120 (12 + ww))))) + 0)), (11, .int ((sum + (ax_f_bgM (σ.2.1 120) w ((t + (n * (σ.2.1 120 (12 + ww)))) - (σ.2.1 120 (12 + ww))))) + 0)), (8, .int (sum + (ax_f_bgM (σ.2.1 120) w ((t + (n * (σ.2.1 120 (12 + ww)))) - (σ.2.1 120 (12 + ww)))))), (10, .int (t + (n * (σ.2.1 120 (12 + ww))))), (0, .ref 118), (1, .int i), (2, .int w), (3, .int t), (4, .int left), (5, .int la)]) 5 rd_d_X12_chooses_156 rfl rfl (by decide) rfl ?_
              refine kr_goto (tgt := 12) rd_d_X12_chooses_159 rfl ?_
              refine kr_sub (lv' := [(9, .int (n + 1)), (8, .int (sum + (ax_f_bgM (σ.2.1 120) w ((t + (n * (σ.2.1 120 (12 + ww)))) - (σ.2.1 120 (12 + ww)))))), (7, .int n), (6, .int ((sum + (ax_f_bgM (σ.2.1 120) w ((t + (n * (σ.2.1 120 (12 + ww)))) - (σ.2.1 120 (12 + ww))))) + 0)), (0, .ref 118), (1, .int i), (2, .int w), (3, .int t), (4, .int left), (5, .int la)]) (by simp) ?_
              exact ih ((j1 + 1) + 1) (n + 1) (sum + (ax_f_bgM (σ.2.1 120) w ((t + (n * (σ.2.1 120 (12 + ww)))) - (σ.2.1 120 (12 + ww))))) n ((sum + (ax_f_bgM (σ.2.1 120) w ((t + (n * (σ.2.1 120 (12 + ww)))) - (σ.2.1 120 (12 + ww))))) + 0) (ax_inc en (by omega)) (by omega) ((ch_Is hI en hsum hv).1 h81)
            · refine kr_goto (tgt := 156) rd_d_X12_chooses_145 rfl ?_
              refine kr_iinc (v := n + 1) (lv' := [(9, .int (n + 1)), (11, .int ((sum + (ax_f_bgM (σ.2.1 120) w ((t + (n * (σ.2.1 120 (12 + ww)))) - (σ.2.1 120 (12 + ww))))) + 0)), (8, .int (sum + (ax_f_bgM (σ.2.1 120) w ((t + (n * (σ.2.1 120 (12 + ww)))) - (σ.2.1 120 (12 + ww)))))), (10, .int (t + (n * (σ.2.1 120 (12 + ww))))), (7, .int mn), (6, .int bs), (0, .ref 118), (1, .int i), (2, .int w), (3, .int t), (4, .int left), (5, .int la)]) 3 rd_d_X12_chooses_156 rfl rfl (by decide) rfl ?_
              refine kr_goto (tgt := 12) rd_d_X12_chooses_159 rfl ?_
              refine kr_sub (lv' := [(9, .int (n + 1)), (8, .int (sum + (ax_f_bgM (σ.2.1 120) w ((t + (n * (σ.2.1 120 (12 + ww)))) - (σ.2.1 120 (12 + ww)))))), (7, .int mn), (6, .int bs), (0, .ref 118), (1, .int i), (2, .int w), (3, .int t), (4, .int left), (5, .int la)]) (by simp) ?_
              exact ih ((j1 + 1) + 1) (n + 1) (sum + (ax_f_bgM (σ.2.1 120) w ((t + (n * (σ.2.1 120 (12 + ww)))) - (σ.2.1 120 (12 + ww))))) mn bs (ax_inc en (by omega)) (by omega) ((ch_Is hI en hsum hv).2 h81)
theorem ax_cho (G : sx_G0 g L xs z9 hd_C ex_mt) {σ : am_S} (hS : ax_S σ) (hb : pl_B (σ.2.1 120)) {i w t left la : Int32} {ii ww TK OF WK T F : Nat} {gg R : Nat → Nat} (ei : i.toInt = (ii : Int)) (et : t.toInt = (T : Int)) (ef : left.toInt = (F : Int)) (hT : T ≤ 61) (hF : F ≤ 24) (hi : ii ≤ 9) (hil : la = 0 → ii ≤ 8) (K : ch_K (σ.2.1 120) (σ.2.1 125) w ww TK OF WK gg ii T F la R) : am_K g 6 tX12_chooses.1 0 0 0 (lv_args 0 [.ref 118, .int i, .int w, .int t, .int left, .int la]) [] σ (fun r σ' => r = some none ∧ ax_S σ' ∧ (σ'.2.1 125 (25 * (62 * ii + T) + F)).toInt = ((pv_best (fun n => pv_S gg TK T n + R n) (min F OF)).1 : Int) ∧ (σ'.2.1 126 (25 * (62 * ii + T) + F)).toInt = ((pv_best (fun n => pv_S gg TK T n + R n) (min F OF)).2 : Int) ∧ ∀ x y, ¬ ((x = 125 ∨ x = 126) ∧ y = 25 * (62 * ii + T) + F) → σ'.2.1 x y = σ.2.1 x y) := by
  refine kr_iconst (v := (-1)) rd_d_X12_chooses_0 (by decide) ?_
  refine kr_istore (lv' := [(6, .int ((-1))), (0, .ref 118), (1, .int i), (2, .int w), (3, .int t), (4, .int left), (5, .int la)]) rd_d_X12_chooses_1 (by decide) rfl ?_
  refine kr_iconst (v := 0) rd_d_X12_chooses_3 (by decide) ?_
  refine kr_istore (lv' := [(7, .int 0), (6, .int ((-1))), (0, .ref 118), (1, .int i), (2, .int w), (3, .int t), (4, .int left), (5, .int la)]) rd_d_X12_chooses_4 (by decide) rfl ?_
  refine kr_iconst (v := 0) rd_d_X12_chooses_6 (by decide) ?_
  refine kr_istore (lv' := [(8, .int 0), (7, .int 0), (6, .int ((-1))), (0, .ref 118), (1, .int i), (2, .int w), (3, .int t), (4, .int left), (5, .int la)]) rd_d_X12_chooses_7 (by decide) rfl ?_
  refine kr_iconst (v := 0) rd_d_X12_chooses_9 (by decide) ?_
  refine kr_istore (lv' := [(9, .int 0), (8, .int 0), (7, .int 0), (6, .int ((-1))), (0, .ref 118), (1, .int i), (2, .int w), (3, .int t), (4, .int left), (5, .int la)]) rd_d_X12_chooses_10 (by decide) rfl ?_
  refine ax_chL G hS hb ei et ef hT hF hi hil K ?_ (min F OF + 1) 0 0 0 0 (-1) rfl (by omega) (Or.inl ⟨rfl, rfl, rfl, rfl⟩)
  intro mn2 bs2 e2 e1
  have hc := ch_cel ei et ef hi hT hF
  refine kr_aload_n 2 rd_d_X12_chooses_162 rfl ?_
  refine kr_getf G.1 (rd_FL rd_k_X12_chooses_163).1 rd_d_X12_chooses_163 (hS.1 118 (.inl 12) rfl) (v := .ref 125) (by unfold am_fa; rw [(rd_FL rd_k_X12_chooses_163).2]; exact hS.2 118 22 125 rfl) ?_
  refine kr_iload_n 3 rd_d_X12_chooses_166 rfl ?_
  refine kr_iload_n 5 rd_d_X12_chooses_167 rfl ?_
  refine kr_iload 6 rd_d_X12_chooses_168 rfl ?_
  refine rd_callS G (T2 := tX12_cell) rfl rd_d_X12_chooses_170 rd_k_X12_chooses_170 rfl rfl (as := [.int i, .int t, .int left]) (st := [.ref 125]) rfl (Nat.le_of_ble_eq_true rfl) rfl (Nat.le_of_ble_eq_true rfl) (d1 := 1) (by decide) (fun _ h => by cases h.1) (ax_cel G hS i t left) ?_
  intro v21 σ21 ⟨hv21, hs21⟩
  cases hv21
  rw [hs21]
  refine kr_iload 1 rd_d_X12_chooses_173 rfl ?_
  refine ax_astW G hS rd_d_X12_chooses_175 (n := 15500) (hS.1 125 (.inr (.int, 15500)) rfl) (ix := 25 * (62 * ii + T) + F) hc.1 hc.2 ?_
  intro τ1 hT1 hw1 hf1
  have hsτ1 : τ1.2.1 120 = σ.2.1 120 := (ax_120F hf1 (by decide))
  have hqτ1 : ax_pl τ1.2.1 = ax_pl σ.2.1 := (ax_plF hf1 (by decide))
  refine kr_aload_n 2 rd_d_X12_chooses_176 rfl ?_
  refine kr_getf G.1 (rd_FL rd_k_X12_chooses_177).1 rd_d_X12_chooses_177 (hT1.1 118 (.inl 12) rfl) (v := .ref 126) (by unfold am_fa; rw [(rd_FL rd_k_X12_chooses_177).2]; exact hT1.2 118 23 126 rfl) ?_
  refine kr_iload_n 3 rd_d_X12_chooses_180 rfl ?_
  refine kr_iload_n 5 rd_d_X12_chooses_181 rfl ?_
  refine kr_iload 6 rd_d_X12_chooses_182 rfl ?_
  refine rd_callS G (T2 := tX12_cell) rfl rd_d_X12_chooses_184 rd_k_X12_chooses_184 rfl rfl (as := [.int i, .int t, .int left]) (st := [.ref 126]) rfl (Nat.le_of_ble_eq_true rfl) rfl (Nat.le_of_ble_eq_true rfl) (d1 := 1) (by decide) (fun _ h => by cases h.1) (ax_cel G hT1 i t left) ?_
  intro v22 σ22 ⟨hv22, hs22⟩
  cases hv22
  rw [hs22]
  refine kr_iload 0 rd_d_X12_chooses_187 rfl ?_
  refine ax_astW G hT1 rd_d_X12_chooses_189 (n := 15500) (hT1.1 126 (.inr (.int, 15500)) rfl) (ix := 25 * (62 * ii + T) + F) hc.1 hc.2 ?_
  intro τ2 hT2 hw2 hf2
  have hsτ2 : τ2.2.1 120 = σ.2.1 120 := (ax_120F hf2 (by decide)).trans hsτ1
  have hqτ2 : ax_pl τ2.2.1 = ax_pl σ.2.1 := (ax_plF hf2 (by decide)).trans hqτ1
  exact kr_return rd_d_X12_chooses_190 rfl ⟨rfl, hT2, by rw [show τ2.2.1 125 (25 * (62 * ii + T) + F) = bs2 from (hf2 125 (25 * (62 * ii + T) + F) (fun q => absurd q.1 (by decide))).trans (hw1)]; exact e1, by rw [show τ2.2.1 126 (25 * (62 * ii + T) + F) = mn2 from hw2]; exact e2, fun x y hx => (hf2 x y (fun q => hx ⟨Or.inr q.1, q.2⟩)).trans (hf1 x y (fun q => hx ⟨Or.inl q.1, q.2⟩))⟩
/-- the numbers of the STATION, for the pure plans -/
def pn_tk (s : Nat → Int32) (w : Nat) : Nat := (s (12 + w)).toInt.toNat
def pn_of (s : Nat → Int32) (w : Nat) : Nat := (s (22 + w)).toInt.toNat
def pn_wk (s : Nat → Int32) : Nat := (s 54).toInt.toNat
def pn_g (s : Nat → Int32) (w x : Nat) : Nat := if x < 61 then (ax_f_bgM s (Int32.ofNat w) (Int32.ofNat x)).toInt.toNat else 0
/-- what the STATION keeps to, as far as plans go -/
def pn_B (s : Nat → Int32) : Prop := pl_B s ∧ pl_B2 s ∧ (∀ k, k < 10 → 0 ≤ (s (12 + k)).toInt ∧ (s (12 + k)).toInt ≤ 9) ∧ (∀ k, k < 10 → 0 ≤ (s (22 + k)).toInt ∧ (s (22 + k)).toInt ≤ 3) ∧ 0 ≤ (s 54).toInt ∧ (s 54).toInt ≤ 5
theorem bg_b2 {s : Nat → Int32} (b : pl_B s) (b2 : pl_B2 s) {a : Int32} (ha : 0 ≤ a.toInt ∧ a.toInt < 10) (t : Int32) : 0 ≤ (ax_f_bgM s a t).toInt ∧ (ax_f_bgM s a t).toInt ≤ 128304 := by
  have g0 := gn_b b b2 ha 0 t
  have g1 := gn_b b b2 ha 1 t
  rw [ax_f_bgM, ax_f_gr]
  split
  · exact g1
  · exact g0
theorem pn_late (s : Nat → Int32) : ∀ w x, 61 ≤ x → pn_g s w x = 0 := fun w x h => by unfold pn_g; rw [if_neg (by omega)]
theorem pn_g_le {s : Nat → Int32} (b : pn_B s) {w : Nat} (hw : w < 10) (x : Nat) : pn_g s w x ≤ 128304 := by
  unfold pn_g
  split
  · have := bg_b2 b.1 b.2.1 (a := Int32.ofNat w) (by rw [Int32.toInt_ofNat_of_lt (by omega)]; omega) (Int32.ofNat x)
    omega
  · omega
/-- a row of windows -/
def pn_ws (win : Nat → Nat) : Nat → Nat → List Nat
  | 0, _ => []
  | k + 1, i => win i :: pn_ws win k (i + 1)
abbrev pn_v (s : Nat → Int32) (ws : List Nat) (t f : Nat) : Nat × Nat := pv (pn_tk s) (pn_of s) (pn_g s) (pn_wk s) ws t f
theorem pn_clip (s : Nat → Int32) (ws : List Nat) (x f : Nat) : pn_v s ws (min 61 x) f = pn_v s ws x f := by
  rcases Nat.le_total x 61 with h | h
  · rw [Nat.min_eq_right h]
  · rw [Nat.min_eq_left h, pn_v, pn_v, pv_late (pn_late s) ws 61 f (Nat.le_refl _), pv_late (pn_late s) ws x f h]
theorem pn_le {s : Nat → Int32} (b : pn_B s) : ∀ (ws : List Nat), (∀ w ∈ ws, w < 10) → ∀ t f, f ≤ 24 → (pn_v s ws t f).1 ≤ f * 128304 := by
  intro ws
  induction ws with
  | nil => intro _ t f _; exact Nat.zero_le _
  | cons w ws ih =>
    intro hw t f hf
    show (pv (pn_tk s) (pn_of s) (pn_g s) (pn_wk s) (w :: ws) t f).1 ≤ _
    rw [pv_cons]
    refine (pv_best_le (b := f * 128304) (fun k hk => ?_)).1
    have h1 := pv_S_le (pn_g_le b (hw w (List.mem_cons_self))) (pn_tk s w) t k
    have h2 := ih (fun x hx => hw x (List.mem_cons_of_mem _ hx)) (t + k * pn_tk s w + pn_wk s) (f - k) (by omega)
    have hk' : k ≤ f := Nat.le_trans hk (Nat.min_le_left _ _)
    have e : k * 128304 + (f - k) * 128304 = f * 128304 := by rw [← Nat.add_mul, Nat.add_sub_cancel' hk']
    show pv_S (pn_g s w) (pn_tk s w) t k + (pn_v s ws (t + k * pn_tk s w + pn_wk s) (f - k)).1 ≤ f * 128304
    omega
/-- the table as far as it is filled: rows from k on, of row k - 1 the seconds below t, of t the fruits below l -/
def pn_T (s : Nat → Int32) (win : Nat → Nat) (M F : Nat) (m : Nat → Nat → Int32) (k t l : Nat) : Prop := ∀ i' t' l', i' < M → t' ≤ 61 → l' ≤ F → (k ≤ i' ∨ (i' + 1 = k ∧ (t' < t ∨ (t' = t ∧ l' < l)))) → (m 125 (25 * (62 * i' + t') + l')).toInt = ((pn_v s (pn_ws win (M - i') i') t' l').1 : Int) ∧ (m 126 (25 * (62 * i' + t') + l')).toInt = ((pn_v s (pn_ws win (M - i') i') t' l').2 : Int)
theorem pn_ws_mem {win : Nat → Nat} : ∀ (k i : Nat), (∀ j, i ≤ j → j < i + k → win j < 10) → ∀ w ∈ pn_ws win k i, w < 10 := by
  intro k
  induction k with
  | zero => intro i _ w hw; cases hw
  | succ k ih =>
    intro i h w hw
    rcases List.mem_cons.mp hw with rfl | hw
    · exact h i (Nat.le_refl _) (by omega)
    · exact ih (i + 1) (fun j h1 h2 => h j (by omega) (by omega)) w hw
/-- what chooses finds there -/
theorem pn_K {s : Nat → Int32} (b : pn_B s) {win : Nat → Nat} {M F : Nat} {m : Nat → Nat → Int32} {ii T l : Nat} (hT : T ≤ 61) (hl : l ≤ F) (hF : F ≤ 24) (hM : ii < M) (hM10 : M ≤ 10) (hwin : ∀ j, j < M → win j < 10) (tab : pn_T s win M F m (ii + 1) T l) {w la : Int32} (ew : w.toInt = (win ii : Int)) (hla : la = 0 ↔ ii + 1 < M) : ch_K s (m 125) w (win ii) (pn_tk s (win ii)) (pn_of s (win ii)) (pn_wk s) (pn_g s (win ii)) ii T l la (fun n => (pn_v s (pn_ws win (M - (ii + 1)) (ii + 1)) (T + n * pn_tk s (win ii) + pn_wk s) (l - n)).1) := by
  have hw := hwin ii hM
  obtain ⟨c1, c2, c3, c4, c5⟩ := b
  have t1 := c3 (win ii) hw
  have t2 := c4 (win ii) hw
  have eW : w = Int32.ofNat (win ii) := ch_ofN ew
  refine ⟨⟨ew, hw⟩, ⟨by unfold pn_tk; omega, by unfold pn_tk; omega⟩, ⟨by unfold pn_of; omega, by unfold pn_of; omega⟩, ⟨by unfold pn_wk; omega, by unfold pn_wk; omega⟩, fun x hx => ?_, fun x hx => pn_late s _ x hx, fun x => pn_g_le ⟨c1, c2, c3, c4, c5⟩ hw x, fun n hn h0 => ?_, fun h0 n => ?_, fun n => ?_⟩
  · have := bg_b2 c1 c2 (a := w) (by omega) (Int32.ofNat x)
    unfold pn_g
    rw [if_pos hx, ← eW]
    omega
  · have := tab (ii + 1) (min 61 (T + n * pn_tk s (win ii) + pn_wk s)) (l - n) (hla.mp h0) (Nat.min_le_left _ _) (by omega) (Or.inl (Nat.le_refl _))
    rw [this.1, pn_clip]
  · have : M - (ii + 1) = 0 := by
      have : ¬ ii + 1 < M := fun q => h0 (hla.mpr q)
      omega
    rw [this]
    rfl
  · rcases Nat.le_total n l with hn | hn
    · have := pn_le ⟨c1, c2, c3, c4, c5⟩ (pn_ws win (M - (ii + 1)) (ii + 1)) (pn_ws_mem _ _ (fun j _ h2 => hwin j (by omega))) (T + n * pn_tk s (win ii) + pn_wk s) (l - n) (by omega)
      have h3 : (l - n) * 128304 ≤ 24 * 128304 := Nat.mul_le_mul_right _ (by omega)
      show (pn_v s (pn_ws win (M - (ii + 1)) (ii + 1)) (T + n * pn_tk s (win ii) + pn_wk s) (l - n)).1 ≤ 4000000
      omega
    · have := pn_le ⟨c1, c2, c3, c4, c5⟩ (pn_ws win (M - (ii + 1)) (ii + 1)) (pn_ws_mem _ _ (fun j _ h2 => hwin j (by omega))) (T + n * pn_tk s (win ii) + pn_wk s) (l - n) (by omega)
      have h3 : (l - n) * 128304 ≤ 24 * 128304 := Nat.mul_le_mul_right _ (by omega)
      show (pn_v s (pn_ws win (M - (ii + 1)) (ii + 1)) (T + n * pn_tk s (win ii) + pn_wk s) (l - n)).1 ≤ 4000000
      omega
/-- one place more -/
theorem pn_T1 {s : Nat → Int32} {win : Nat → Nat} {M F : Nat} {m m' : Nat → Nat → Int32} {ii T l : Nat} (hT : T ≤ 61) (hl : l ≤ F) (hF : F ≤ 24) (hM : ii < M) (tab : pn_T s win M F m (ii + 1) T l) (h5 : (m' 125 (25 * (62 * ii + T) + l)).toInt = ((pv_best (fun n => pv_S (pn_g s (win ii)) (pn_tk s (win ii)) T n + (pn_v s (pn_ws win (M - (ii + 1)) (ii + 1)) (T + n * pn_tk s (win ii) + pn_wk s) (l - n)).1) (min l (pn_of s (win ii)))).1 : Int)) (h6 : (m' 126 (25 * (62 * ii + T) + l)).toInt = ((pv_best (fun n => pv_S (pn_g s (win ii)) (pn_tk s (win ii)) T n + (pn_v s (pn_ws win (M - (ii + 1)) (ii + 1)) (T + n * pn_tk s (win ii) + pn_wk s) (l - n)).1) (min l (pn_of s (win ii)))).2 : Int)) (fr : ∀ x y, ¬ ((x = 125 ∨ x = 126) ∧ y = 25 * (62 * ii + T) + l) → m' x y = m x y) : pn_T s win M F m' (ii + 1) T (l + 1) := by
  intro i' t' l' a1 a2 a3 a4
  by_cases e : i' = ii ∧ t' = T ∧ l' = l
  · obtain ⟨rfl, rfl, rfl⟩ := e
    obtain ⟨k, hk⟩ : ∃ k, M - i' = k + 1 := ⟨M - i' - 1, by omega⟩
    have hk2 : M - (i' + 1) = k := by omega
    rw [hk2] at h5 h6
    rw [hk]
    exact ⟨h5, h6⟩
  · have hne : 25 * (62 * i' + t') + l' ≠ 25 * (62 * ii + T) + l := by omega
    rw [fr 125 _ (fun q => hne q.2), fr 126 _ (fun q => hne q.2)]
    exact tab i' t' l' a1 a2 a3 (by omega)
theorem ax_pqF (G : sx_G0 g L xs z9 hd_C ex_mt) {i t w f mm st fr to : Int32} {ii T F M : Nat} {win : Nat → Nat} {s0 : Nat → Int32} (b : pn_B s0) (ei : i.toInt = (ii : Int)) (ew : w.toInt = (win ii : Int)) (ef : f.toInt = (F : Int)) (em : mm.toInt = (M : Int)) (hF : F ≤ 24) (hM : ii < M) (hM10 : M ≤ 10) (hwin : ∀ j, j < M → win j < 10) {post : Option (Option Value) → am_S → Prop} (et : t.toInt = (T : Int)) (hT : T ≤ 61) : ∀ (n ll : Nat) (l : Int32) (σ : am_S), ax_S σ → σ.2.1 120 = s0 → l.toInt = (ll : Int) → ll + n = F + 1 → pn_T s0 win M F σ.2.1 (ii + 1) T ll → (∀ (σ' : am_S) (l2 : Int32), ax_S σ' → (∀ x y, x ≠ 125 → x ≠ 126 → σ'.2.1 x y = σ.2.1 x y) → pn_T s0 win M F σ'.2.1 (ii + 1) T (F + 1) → am_K g 7 tX12_plans.1 0 0 92 [(9, .int l2), (8, .int t), (7, .int w), (6, .int i), (5, .int mm), (4, .int st), (0, .ref 118), (1, .int fr), (2, .int to), (3, .int f)] [] σ' post) → am_K g 7 tX12_plans.1 0 0 54 [(9, .int l), (8, .int t), (7, .int w), (6, .int i), (5, .int mm), (4, .int st), (0, .ref 118), (1, .int fr), (2, .int to), (3, .int f)] [] σ post := by
  intro n
  induction n with
  | zero =>
    intro ll l σ hS hs el hn tab kk
    refine kr_iload 0 rd_d_X12_plans_54 rfl ?_
    refine kr_iload_n 9 rd_d_X12_plans_56 rfl ?_
    refine kr_icmp_gt (tgt := 92) rd_d_X12_plans_57 rfl (fun _ => ?_) (fun h => absurd (Int32.lt_iff_toInt_lt.mpr (by omega)) h)
    have : ll = F + 1 := by omega
    subst this
    exact kk σ l hS (fun _ _ _ _ => rfl) tab
  | succ n ih =>
    intro ll l σ hS hs el hn tab kk
    refine kr_iload 0 rd_d_X12_plans_54 rfl ?_
    refine kr_iload_n 9 rd_d_X12_plans_56 rfl ?_
    refine kr_icmp_gt (tgt := 92) rd_d_X12_plans_57 rfl (fun h => by have := Int32.lt_iff_toInt_lt.mp h; omega) (fun _ => ?_)
    have hlF : ll ≤ F := by omega
    have em1 := ch_sub em (y := 1) (b := 1) rfl (by omega)
    refine kr_aload_n 6 rd_d_X12_plans_60 rfl ?_
    refine kr_iload 3 rd_d_X12_plans_61 rfl ?_
    refine kr_iload 2 rd_d_X12_plans_63 rfl ?_
    refine kr_iload 1 rd_d_X12_plans_65 rfl ?_
    refine kr_iload 0 rd_d_X12_plans_67 rfl ?_
    refine kr_iload 3 rd_d_X12_plans_69 rfl ?_
    refine kr_iload 4 rd_d_X12_plans_71 rfl ?_
    refine kr_iconst (v := 1) rd_d_X12_plans_73 (by decide) ?_
    refine kr_isub rd_d_X12_plans_74 ?_
    refine kr_icmp_ne (tgt := 82) rd_d_X12_plans_75 rfl (fun h11 => ?_) (fun h11 => ?_)
    · refine kr_iconst (v := 0) rd_d_X12_plans_82 (by decide) ?_
      have hla : ((0 : Int32) = 0 ↔ ii + 1 < M) := ⟨fun _ => by have : ¬ ii = M - 1 := fun e => h11 (Int32.toInt_inj.mp (by omega)); omega, fun _ => rfl⟩
      have K := pn_K b hT hlF hF hM hM10 hwin tab ew hla
      rw [← hs] at K
      refine rd_call G (T2 := tX12_chooses) rfl rd_d_X12_plans_83 rd_k_X12_plans_83 rfl (hS.1 118 (.inl 12) rfl) (as := [.int i, .int w, .int t, .int l, .int 0]) (st := []) rfl (Nat.le_of_ble_eq_true rfl) rfl (Nat.le_of_ble_eq_true rfl) (d1 := 6) (by decide) (fun _ h => by cases h.1) (ax_cho G hS (by rw [hs]; exact b.1) ei et el hT (by omega) (by omega) (fun q => by have := hla.mp q; omega) K) ?_
      intro vv τ ⟨hvv, hT1, h5, h6, hfr⟩
      cases hvv
      rw [hs] at h5 h6
      refine kr_iinc (v := l + 1) (lv' := [(9, .int (l + 1)), (8, .int t), (7, .int w), (6, .int i), (5, .int mm), (4, .int st), (0, .ref 118), (1, .int fr), (2, .int to), (3, .int f)]) 0 rd_d_X12_plans_86 rfl rfl (by decide) rfl ?_
      refine kr_goto (tgt := 54) rd_d_X12_plans_89 rfl ?_
      refine ih (ll + 1) (l + 1) τ hT1 ((funext fun y => hfr 120 y (fun q => absurd q.1 (by decide))).trans hs) (ax_inc el (by omega)) (by omega) (pn_T1 hT hlF hF hM tab h5 h6 hfr) ?_
      intro σ' l2 a1 a2 a3
      exact kk σ' l2 a1 (fun x y x5 x6 => (a2 x y x5 x6).trans (hfr x y (fun q => by rcases q.1 with e | e; exact x5 e; exact x6 e))) a3
    · refine kr_iconst (v := 1) rd_d_X12_plans_78 (by decide) ?_
      refine kr_goto (tgt := 83) rd_d_X12_plans_79 rfl ?_
      have hla : ((1 : Int32) = 0 ↔ ii + 1 < M) := ⟨fun q => absurd q (by decide), fun q => by have e := congrArg Int32.toInt h11; omega⟩
      have K := pn_K b hT hlF hF hM hM10 hwin tab ew hla
      rw [← hs] at K
      refine rd_call G (T2 := tX12_chooses) rfl rd_d_X12_plans_83 rd_k_X12_plans_83 rfl (hS.1 118 (.inl 12) rfl) (as := [.int i, .int w, .int t, .int l, .int 1]) (st := []) rfl (Nat.le_of_ble_eq_true rfl) rfl (Nat.le_of_ble_eq_true rfl) (d1 := 6) (by decide) (fun _ h => by cases h.1) (ax_cho G hS (by rw [hs]; exact b.1) ei et el hT (by omega) (by omega) (fun q => by have := hla.mp q; omega) K) ?_
      intro vv τ ⟨hvv, hT1, h5, h6, hfr⟩
      cases hvv
      rw [hs] at h5 h6
      refine kr_iinc (v := l + 1) (lv' := [(9, .int (l + 1)), (8, .int t), (7, .int w), (6, .int i), (5, .int mm), (4, .int st), (0, .ref 118), (1, .int fr), (2, .int to), (3, .int f)]) 0 rd_d_X12_plans_86 rfl rfl (by decide) rfl ?_
      refine kr_goto (tgt := 54) rd_d_X12_plans_89 rfl ?_
      refine ih (ll + 1) (l + 1) τ hT1 ((funext fun y => hfr 120 y (fun q => absurd q.1 (by decide))).trans hs) (ax_inc el (by omega)) (by omega) (pn_T1 hT hlF hF hM tab h5 h6 hfr) ?_
      intro σ' l2 a1 a2 a3
      exact kk σ' l2 a1 (fun x y x5 x6 => (a2 x y x5 x6).trans (hfr x y (fun q => by rcases q.1 with e | e; exact x5 e; exact x6 e))) a3
theorem ax_pqT (G : sx_G0 g L xs z9 hd_C ex_mt) {i w f mm st fr to : Int32} {ii F M : Nat} {win : Nat → Nat} {s0 : Nat → Int32} (b : pn_B s0) (ei : i.toInt = (ii : Int)) (ew : w.toInt = (win ii : Int)) (ef : f.toInt = (F : Int)) (em : mm.toInt = (M : Int)) (hF : F ≤ 24) (hM : ii < M) (hM10 : M ≤ 10) (hwin : ∀ j, j < M → win j < 10) {post : Option (Option Value) → am_S → Prop} : ∀ (n T : Nat) (t : Int32) (σ : am_S), ax_S σ → σ.2.1 120 = s0 → t.toInt = (T : Int) → T + n = 62 → pn_T s0 win M F σ.2.1 (ii + 1) T 0 → (∀ (σ' : am_S) (t2 : Int32), ax_S σ' → (∀ x y, x ≠ 125 → x ≠ 126 → σ'.2.1 x y = σ.2.1 x y) → pn_T s0 win M F σ'.2.1 (ii + 1) 62 0 → am_K g 7 tX12_plans.1 0 0 98 [(8, .int t2), (7, .int w), (6, .int i), (5, .int mm), (4, .int st), (0, .ref 118), (1, .int fr), (2, .int to), (3, .int f)] [] σ' post) → am_K g 7 tX12_plans.1 0 0 44 [(8, .int t), (7, .int w), (6, .int i), (5, .int mm), (4, .int st), (0, .ref 118), (1, .int fr), (2, .int to), (3, .int f)] [] σ post := by
  intro n
  induction n with
  | zero =>
    intro T t σ hS hs et hn tab kk
    refine kr_iload 0 rd_d_X12_plans_44 rfl ?_
    refine kr_bipush (v := 61) rd_d_X12_plans_46 (by decide) ?_
    refine kr_icmp_gt (tgt := 98) rd_d_X12_plans_48 rfl (fun _ => ?_) (fun h => absurd (Int32.lt_iff_toInt_lt.mpr (by show (61 : Int) < _; omega)) h)
    have : T = 62 := by omega
    subst this
    exact kk σ t hS (fun _ _ _ _ => rfl) tab
  | succ n ih =>
    intro T t σ hS hs et hn tab kk
    refine kr_iload 0 rd_d_X12_plans_44 rfl ?_
    refine kr_bipush (v := 61) rd_d_X12_plans_46 (by decide) ?_
    refine kr_icmp_gt (tgt := 98) rd_d_X12_plans_48 rfl (fun h => by have h' : (61 : Int32).toInt < t.toInt := Int32.lt_iff_toInt_lt.mp h; have z : (61 : Int32).toInt = 61 := rfl; omega) (fun _ => ?_)
    refine kr_iconst (v := 0) rd_d_X12_plans_51 (by decide) ?_
    refine kr_istore (lv' := [(9, .int 0), (8, .int t), (7, .int w), (6, .int i), (5, .int mm), (4, .int st), (0, .ref 118), (1, .int fr), (2, .int to), (3, .int f)]) rd_d_X12_plans_52 (by decide) rfl ?_
    refine ax_pqF G b ei ew ef em hF hM hM10 hwin et (by omega) (F + 1) 0 0 σ hS hs rfl (by omega) tab ?_
    intro τ l2 a1 a2 a3
    refine kr_iinc (v := t + 1) (lv' := [(8, .int (t + 1)), (9, .int l2), (7, .int w), (6, .int i), (5, .int mm), (4, .int st), (0, .ref 118), (1, .int fr), (2, .int to), (3, .int f)]) 1 rd_d_X12_plans_92 rfl rfl (by decide) rfl ?_
    refine kr_goto (tgt := 44) rd_d_X12_plans_95 rfl ?_
    refine kr_sub (lv' := [(8, .int (t + 1)), (7, .int w), (6, .int i), (5, .int mm), (4, .int st), (0, .ref 118), (1, .int fr), (2, .int to), (3, .int f)]) (by simp) ?_
    refine ih (T + 1) (t + 1) τ a1 ((funext fun y => a2 120 y (by decide) (by decide)).trans hs) (ax_inc et (by omega)) (by omega) ?_ ?_
    · intro i' t' l' b1 b2 b3 b4
      exact a3 i' t' l' b1 b2 b3 (by omega)
    · intro σ' t2 c1 c2 c3
      exact kk σ' t2 c1 (fun x y x5 x6 => (c2 x y x5 x6).trans (a2 x y x5 x6)) c3
theorem ax_pqI (G : sx_G0 g L xs z9 hd_C ex_mt) {f mm st fr to : Int32} {F M : Nat} {win : Nat → Nat} {s0 : Nat → Int32} (b : pn_B s0) (ef : f.toInt = (F : Int)) (em : mm.toInt = (M : Int)) (hF : F ≤ 24) (hM10 : M ≤ 10) (hwin : ∀ j, j < M → win j < 10) (hwe : ∀ (j : Nat) (i : Int32), j < M → i.toInt = (j : Int) → (fr + st * i).toInt = (win j : Int)) {post : Option (Option Value) → am_S → Prop} : ∀ (n : Nat) (i : Int32) (σ : am_S), ax_S σ → σ.2.1 120 = s0 → i.toInt = (n : Int) - 1 → n ≤ M → pn_T s0 win M F σ.2.1 n 0 0 → (∀ σ' : am_S, ax_S σ' → (∀ x y, x ≠ 125 → x ≠ 126 → σ'.2.1 x y = σ.2.1 x y) → pn_T s0 win M F σ'.2.1 0 0 0 → post (some none) σ') → am_K g 7 tX12_plans.1 0 0 27 [(6, .int i), (5, .int mm), (4, .int st), (0, .ref 118), (1, .int fr), (2, .int to), (3, .int f)] [] σ post := by
  intro n
  induction n with
  | zero =>
    intro i σ hS hs ei hn tab kk
    refine kr_iload 0 rd_d_X12_plans_27 rfl ?_
    refine kr_if_lt (tgt := 104) rd_d_X12_plans_29 rfl (fun _ => ?_) (fun h => absurd (Int32.lt_iff_toInt_lt.mpr (by show _ < (0 : Int); omega)) h)
    exact kr_return rd_d_X12_plans_104 rfl (kk σ hS (fun _ _ _ _ => rfl) tab)
  | succ n ih =>
    intro i σ hS hs ei hn tab kk
    have ei' : i.toInt = (n : Int) := by omega
    refine kr_iload 0 rd_d_X12_plans_27 rfl ?_
    refine kr_if_lt (tgt := 104) rd_d_X12_plans_29 rfl (fun h => by have h' : i.toInt < (0 : Int32).toInt := Int32.lt_iff_toInt_lt.mp h; have z : (0 : Int32).toInt = 0 := rfl; omega) (fun _ => ?_)
    refine kr_iload_n 4 rd_d_X12_plans_32 rfl ?_
    refine kr_iload 2 rd_d_X12_plans_33 rfl ?_
    refine kr_iload 0 rd_d_X12_plans_35 rfl ?_
    refine kr_imul rd_d_X12_plans_37 ?_
    refine kr_iadd rd_d_X12_plans_38 ?_
    refine kr_istore (lv' := [(7, .int (fr + st * i)), (6, .int i), (5, .int mm), (4, .int st), (0, .ref 118), (1, .int fr), (2, .int to), (3, .int f)]) rd_d_X12_plans_39 (by decide) rfl ?_
    refine kr_iconst (v := 0) rd_d_X12_plans_41 (by decide) ?_
    refine kr_istore (lv' := [(8, .int 0), (7, .int (fr + st * i)), (6, .int i), (5, .int mm), (4, .int st), (0, .ref 118), (1, .int fr), (2, .int to), (3, .int f)]) rd_d_X12_plans_42 (by decide) rfl ?_
    refine ax_pqT (w := fr + st * i) G b ei' (hwe n i (by omega) ei') ef em hF (by omega) hM10 hwin 62 0 0 σ hS hs rfl rfl tab ?_
    intro τ t2 a1 a2 a3
    refine kr_iinc (v := i + (-1)) (lv' := [(6, .int (i + (-1))), (8, .int t2), (7, .int (fr + st * i)), (5, .int mm), (4, .int st), (0, .ref 118), (1, .int fr), (2, .int to), (3, .int f)]) 2 rd_d_X12_plans_98 rfl rfl (by decide) rfl ?_
    refine kr_goto (tgt := 27) rd_d_X12_plans_101 rfl ?_
    refine kr_sub (lv' := [(6, .int (i + (-1))), (5, .int mm), (4, .int st), (0, .ref 118), (1, .int fr), (2, .int to), (3, .int f)]) (by simp) ?_
    refine ih (i + (-1)) τ a1 ((funext fun y => a2 120 y (by decide) (by decide)).trans hs) (ax_dec ei) (by omega) ?_ ?_
    · intro i' t' l' b1 b2 b3 b4
      exact a3 i' t' l' b1 b2 b3 (by omega)
    · intro σ' c1 c2 c3
      exact kk σ' c1 (fun x y x5 x6 => (c2 x y x5 x6).trans (a2 x y x5 x6)) c3
def ax_f_off (a b : Int32) : Int32 := if b ≤ a then a - b else b - a
theorem ax_off (G : sx_G0 g L xs z9 hd_C ex_mt) {σ : am_S} (hS : ax_S σ) (a b : Int32) : am_K g 1 tX12_off.1 0 0 0 (lv_args 0 [.int a, .int b]) [] σ (ax_R (ax_f_off a b) σ) := by
  refine kr_iload_n 0 rd_d_X12_off_0 rfl ?_
  refine kr_iload_n 1 rd_d_X12_off_1 rfl ?_
  refine kr_icmp_ge (tgt := 11) rd_d_X12_off_2 rfl (fun h1 => ?_) (fun h1 => ?_)
  · refine kr_iload_n 0 rd_d_X12_off_11 rfl ?_
    refine kr_iload_n 1 rd_d_X12_off_12 rfl ?_
    refine kr_isub rd_d_X12_off_13 ?_
    exact kr_ireturn rd_d_X12_off_14 (ty := .int) rfl rfl ⟨by rw [ax_f_off, if_pos h1], rfl⟩
  · refine kr_iload_n 1 rd_d_X12_off_5 rfl ?_
    refine kr_iload_n 0 rd_d_X12_off_6 rfl ?_
    refine kr_isub rd_d_X12_off_7 ?_
    refine kr_goto (tgt := 14) rd_d_X12_off_8 rfl ?_
    exact kr_ireturn rd_d_X12_off_14 (ty := .int) rfl rfl ⟨by rw [ax_f_off, if_neg h1], rfl⟩
/-- the windows from a to b, either way -/
def pn_win (a b : Nat) : Nat → Nat := fun j => if a ≤ b then a + j else a - j
def pn_M (a b : Nat) : Nat := if a ≤ b then b - a + 1 else a - b + 1
theorem pn_M1 {a b : Nat} (ha : a < 10) (hb : b < 10) : 1 ≤ pn_M a b ∧ pn_M a b ≤ 10 := by
  unfold pn_M
  split <;> omega
theorem pn_win10 {a b : Nat} (ha : a < 10) (hb : b < 10) : ∀ j, j < pn_M a b → pn_win a b j < 10 := by
  intro j hj
  unfold pn_M at hj
  unfold pn_win
  split at hj <;> (split <;> omega)
theorem pn_wup {a b : Nat} {x : Int32} (ha : a < 10) (hb : b < 10) (hx : x.toInt = (a : Int)) (h : a ≤ b) : ∀ (j : Nat) (i : Int32), j < pn_M a b → i.toInt = (j : Int) → (x + 1 * i).toInt = (pn_win a b j : Int) := by
  intro j i hj hi
  have hm := pn_M1 ha hb
  have e1 := ch_mul (x := 1) (a := 1) rfl hi (A := 1) (B := 10) (Nat.le_refl _) (by omega) (by decide)
  have e2 := ch_add hx e1 (by omega)
  unfold pn_win
  rw [if_pos h, e2, Nat.one_mul]
theorem pn_wdn {a b : Nat} {x : Int32} (ha : a < 10) (hb : b < 10) (hx : x.toInt = (a : Int)) (h : ¬ a ≤ b) : ∀ (j : Nat) (i : Int32), j < pn_M a b → i.toInt = (j : Int) → (x + (-1) * i).toInt = (pn_win a b j : Int) := by
  intro j i hj hi
  unfold pn_M at hj
  rw [if_neg h] at hj
  have z : ((-1 : Int32)).toInt = -1 := rfl
  have e : ((-1 : Int32)).toInt * i.toInt = -(j : Int) := by rw [z, hi]; omega
  have e1 := sx_mulI (-1) i (by rw [e]; show (-2147483648 : Int) ≤ _; omega) (by rw [e]; show _ ≤ (2147483647 : Int); omega)
  rw [e] at e1
  unfold pn_win
  rw [if_neg h, sx_addI x ((-1) * i) (by rw [hx, e1]; show (-2147483648 : Int) ≤ _; omega) (by rw [hx, e1]; show _ ≤ (2147483647 : Int); omega), hx, e1]
  omega
theorem pn_off {a b : Nat} {x y : Int32} (hx : x.toInt = (a : Int)) (hy : y.toInt = (b : Int)) (ha : a < 10) (hb : b < 10) : (ax_f_off x y + 1).toInt = (pn_M a b : Int) ∧ (ax_f_off x y + 1 - 1).toInt = ((pn_M a b : Nat) : Int) - 1 := by
  have e : (ax_f_off x y).toInt = ((pn_M a b - 1 : Nat) : Int) := by
    rw [ax_f_off]
    unfold pn_M
    split
    · rename_i h
      have := Int32.le_iff_toInt_le.mp h
      rw [ch_sub hx hy (by omega)]
      split <;> omega
    · rename_i h
      have : ¬ y.toInt ≤ x.toInt := fun q => h (Int32.le_iff_toInt_le.mpr q)
      rw [ch_sub hy hx (by omega), if_pos (by omega)]
      omega
  have hm := pn_M1 ha hb
  have e1 := ch_add e (y := 1) (b := 1) rfl (by omega)
  have e2 := ch_sub e1 (y := 1) (b := 1) rfl (by omega)
  exact ⟨by rw [e1]; omega, by rw [e2]; omega⟩
theorem ax_pls (G : sx_G0 g L xs z9 hd_C ex_mt) {σ : am_S} (hS : ax_S σ) {a b c : Int32} {aa bb F : Nat} (ea : a.toInt = (aa : Int)) (eb : b.toInt = (bb : Int)) (ec : c.toInt = (F : Int)) (ha : aa < 10) (hb : bb < 10) (hF : F ≤ 24) (B : pn_B (σ.2.1 120)) : am_K g 7 tX12_plans.1 0 0 0 (lv_args 0 [.ref 118, .int a, .int b, .int c]) [] σ (fun r σ' => r = some none ∧ ax_S σ' ∧ (∀ x y, x ≠ 125 → x ≠ 126 → σ'.2.1 x y = σ.2.1 x y) ∧ pn_T (σ.2.1 120) (pn_win aa bb) (pn_M aa bb) F σ'.2.1 0 0 0) := by
  refine kr_iload_n 1 rd_d_X12_plans_0 rfl ?_
  refine kr_iload_n 2 rd_d_X12_plans_1 rfl ?_
  refine kr_icmp_gt (tgt := 9) rd_d_X12_plans_2 rfl (fun h1 => ?_) (fun h1 => ?_)
  · refine kr_iconst (v := (-1)) rd_d_X12_plans_9 (by decide) ?_
    refine kr_istore (lv' := [(4, .int ((-1))), (0, .ref 118), (1, .int a), (2, .int b), (3, .int c)]) rd_d_X12_plans_10 (by decide) rfl ?_
    refine kr_iload_n 2 rd_d_X12_plans_12 rfl ?_
    refine kr_iload_n 3 rd_d_X12_plans_13 rfl ?_
    refine rd_callS G (T2 := tX12_off) rfl rd_d_X12_plans_14 rd_k_X12_plans_14 rfl rfl (as := [.int a, .int b]) (st := []) rfl (Nat.le_of_ble_eq_true rfl) rfl (Nat.le_of_ble_eq_true rfl) (d1 := 1) (by decide) (fun _ h => by cases h.1) (ax_off G hS a b) ?_
    intro v2 σ2 ⟨hv2, hs2⟩
    cases hv2
    rw [hs2]
    refine kr_iconst (v := 1) rd_d_X12_plans_17 (by decide) ?_
    refine kr_iadd rd_d_X12_plans_18 ?_
    refine kr_istore (lv' := [(5, .int ((ax_f_off a b) + 1)), (4, .int ((-1))), (0, .ref 118), (1, .int a), (2, .int b), (3, .int c)]) rd_d_X12_plans_19 (by decide) rfl ?_
    refine kr_iload 0 rd_d_X12_plans_21 rfl ?_
    refine kr_iconst (v := 1) rd_d_X12_plans_23 (by decide) ?_
    refine kr_isub rd_d_X12_plans_24 ?_
    refine kr_istore (lv' := [(6, .int (((ax_f_off a b) + 1) - 1)), (5, .int ((ax_f_off a b) + 1)), (4, .int ((-1))), (0, .ref 118), (1, .int a), (2, .int b), (3, .int c)]) rd_d_X12_plans_25 (by decide) rfl ?_
    refine kr_sub (lv' := [(6, .int (((ax_f_off a b) + 1) - 1)), (5, .int ((ax_f_off a b) + 1)), (4, .int ((-1))), (0, .ref 118), (1, .int a), (2, .int b), (3, .int c)]) (by simp) ?_
    have hab : ¬ aa ≤ bb := by have := Int32.lt_iff_toInt_lt.mp h1; omega
    have hm := pn_M1 ha hb
    have ho := pn_off ea eb ha hb
    refine ax_pqI G B ec ho.1 hF hm.2 (pn_win10 ha hb) (pn_wdn ha hb ea hab) (pn_M aa bb) _ σ hS rfl ho.2 (Nat.le_refl _) ?_ ?_
    · intro i' t' l' b1 b2 b3 b4
      omega
    · exact fun σ' c1 c2 c3 => ⟨rfl, c1, c2, c3⟩
  · refine kr_iconst (v := 1) rd_d_X12_plans_5 (by decide) ?_
    refine kr_goto (tgt := 10) rd_d_X12_plans_6 rfl ?_
    refine kr_istore (lv' := [(4, .int 1), (0, .ref 118), (1, .int a), (2, .int b), (3, .int c)]) rd_d_X12_plans_10 (by decide) rfl ?_
    refine kr_iload_n 2 rd_d_X12_plans_12 rfl ?_
    refine kr_iload_n 3 rd_d_X12_plans_13 rfl ?_
    refine rd_callS G (T2 := tX12_off) rfl rd_d_X12_plans_14 rd_k_X12_plans_14 rfl rfl (as := [.int a, .int b]) (st := []) rfl (Nat.le_of_ble_eq_true rfl) rfl (Nat.le_of_ble_eq_true rfl) (d1 := 1) (by decide) (fun _ h => by cases h.1) (ax_off G hS a b) ?_
    intro v3 σ3 ⟨hv3, hs3⟩
    cases hv3
    rw [hs3]
    refine kr_iconst (v := 1) rd_d_X12_plans_17 (by decide) ?_
    refine kr_iadd rd_d_X12_plans_18 ?_
    refine kr_istore (lv' := [(5, .int ((ax_f_off a b) + 1)), (4, .int 1), (0, .ref 118), (1, .int a), (2, .int b), (3, .int c)]) rd_d_X12_plans_19 (by decide) rfl ?_
    refine kr_iload 0 rd_d_X12_plans_21 rfl ?_
    refine kr_iconst (v := 1) rd_d_X12_plans_23 (by decide) ?_
    refine kr_isub rd_d_X12_plans_24 ?_
    refine kr_istore (lv' := [(6, .int (((ax_f_off a b) + 1) - 1)), (5, .int ((ax_f_off a b) + 1)), (4, .int 1), (0, .ref 118), (1, .int a), (2, .int b), (3, .int c)]) rd_d_X12_plans_25 (by decide) rfl ?_
    refine kr_sub (lv' := [(6, .int (((ax_f_off a b) + 1) - 1)), (5, .int ((ax_f_off a b) + 1)), (4, .int 1), (0, .ref 118), (1, .int a), (2, .int b), (3, .int c)]) (by simp) ?_
    have hab : aa ≤ bb := by have : ¬ b.toInt < a.toInt := fun q => h1 (Int32.lt_iff_toInt_lt.mpr q); omega
    have hm := pn_M1 ha hb
    have ho := pn_off ea eb ha hb
    refine ax_pqI G B ec ho.1 hF hm.2 (pn_win10 ha hb) (pn_wup ha hb ea hab) (pn_M aa bb) _ σ hS rfl ho.2 (Nat.le_refl _) ?_ ?_
    · intro i' t' l' b1 b2 b3 b4
      omega
    · exact fun σ' c1 c2 c3 => ⟨rfl, c1, c2, c3⟩
theorem ax_pof (G : sx_G0 g L xs z9 hd_C ex_mt) {σ : am_S} (hS : ax_S σ) {a b c : Int32} {aa bb F : Nat} (ea : a.toInt = (aa : Int)) (eb : b.toInt = (bb : Int)) (ec : c.toInt = (F : Int)) (ha : aa < 10) (hb : bb < 10) (hF : F ≤ 24) (B : pn_B (σ.2.1 120)) : am_K g 8 tX12_planOf.1 0 0 0 (lv_args 0 [.ref 118, .int a, .int b, .int c]) [] σ (fun r σ' => (∃ y : Int32, r = some (some (.int y)) ∧ y.toInt = ((pn_v (σ.2.1 120) (pn_ws (pn_win aa bb) (pn_M aa bb) 0) 0 F).1 : Int)) ∧ ax_S σ' ∧ (∀ x y, x ≠ 125 → x ≠ 126 → σ'.2.1 x y = σ.2.1 x y) ∧ pn_T (σ.2.1 120) (pn_win aa bb) (pn_M aa bb) F σ'.2.1 0 0 0) := by
  refine kr_aload_n 0 rd_d_X12_planOf_0 rfl ?_
  refine kr_iload_n 1 rd_d_X12_planOf_1 rfl ?_
  refine kr_iload_n 2 rd_d_X12_planOf_2 rfl ?_
  refine kr_iload_n 3 rd_d_X12_planOf_3 rfl ?_
  refine rd_call G (T2 := tX12_plans) rfl rd_d_X12_planOf_4 rd_k_X12_planOf_4 rfl (hS.1 118 (.inl 12) rfl) (as := [.int a, .int b, .int c]) (st := []) rfl (Nat.le_of_ble_eq_true rfl) rfl (Nat.le_of_ble_eq_true rfl) (d1 := 7) (by decide) (fun _ h => by cases h.1) (ax_pls G hS ea eb ec ha hb hF B) ?_
  intro vv τ ⟨hvv, hT, hfr, tab⟩
  cases hvv
  have hc := ch_cel (i := 0) (t := 0) (a := 0) (b := 0) rfl rfl ec (by decide) (by decide) hF
  refine kr_aload_n 0 rd_d_X12_planOf_7 rfl ?_
  refine kr_getf G.1 (rd_FL rd_k_X12_planOf_8).1 rd_d_X12_planOf_8 (hT.1 118 (.inl 12) rfl) (v := .ref 125) (by unfold am_fa; rw [(rd_FL rd_k_X12_planOf_8).2]; exact hT.2 118 22 125 rfl) ?_
  refine kr_iconst (v := 0) rd_d_X12_planOf_11 (by decide) ?_
  refine kr_iconst (v := 0) rd_d_X12_planOf_12 (by decide) ?_
  refine kr_iload_n 3 rd_d_X12_planOf_13 rfl ?_
  refine rd_callS G (T2 := tX12_cell) rfl rd_d_X12_planOf_14 rd_k_X12_planOf_14 rfl rfl (as := [.int 0, .int 0, .int c]) (st := [.ref 125]) rfl (Nat.le_of_ble_eq_true rfl) rfl (Nat.le_of_ble_eq_true rfl) (d1 := 1) (by decide) (fun _ h => by cases h.1) (ax_cel G hT 0 0 c) ?_
  intro v1 σ1 ⟨hv1, hs1⟩
  cases hv1
  rw [hs1]
  refine kr_iald G.1 (n := 15500) rd_d_X12_planOf_17 (hT.1 125 (.inr (.int, 15500)) rfl) (hd_in (n := 25 * (62 * 0 + 0) + F) hc.1 hc.2) ?_
  rw [hd_clamp (n := 25 * (62 * 0 + 0) + F) hc.1]
  refine kr_ireturn rd_d_X12_planOf_18 (ty := .int) rfl rfl ⟨⟨_, rfl, ?_⟩, hT, hfr, tab⟩
  exact (tab 0 0 F (pn_M1 ha hb).1 (by decide) (Nat.le_refl _) (Or.inl (Nat.le_refl _))).1
def ax_f_oft (m : Nat → Nat → Int32) (a : Int32) : Int32 := ax_ent (m 7) 10 a
theorem ax_oft (G : sx_G0 g L xs z9 hd_C ex_mt) {σ : am_S} (hS : ax_S σ) (a : Int32) : am_K g 2 tX9_oftenOf.1 0 0 0 (lv_args 0 [.ref 4, .int a]) [] σ (ax_R (ax_f_oft σ.2.1 a) σ) := by
  refine kr_aload_n 0 rd_d_X9_oftenOf_0 rfl ?_
  refine kr_getf G.1 (rd_FL rd_k_X9_oftenOf_1).1 rd_d_X9_oftenOf_1 (hS.1 4 (.inl 9) rfl) (v := .ref 7) (by unfold am_fa; rw [(rd_FL rd_k_X9_oftenOf_1).2]; exact hS.2 4 2 7 rfl) ?_
  refine kr_iload_n 1 rd_d_X9_oftenOf_4 rfl ?_
  refine rd_callS G (T2 := tX11_entry) rfl rd_d_X9_oftenOf_5 rd_k_X9_oftenOf_5 rfl rfl (as := [.ref 7, .int a]) (st := []) rfl (Nat.le_of_ble_eq_true rfl) rfl (Nat.le_of_ble_eq_true rfl) (d1 := 1) (by decide) (fun _ h => by cases h.1) (ax_entry G (hS.1 7 (.inr (.int, 10)) rfl) (by decide) a) ?_
  intro v1 σ1 ⟨hv1, hs1⟩
  cases hv1
  rw [hs1]
  exact kr_ireturn rd_d_X9_oftenOf_8 (ty := .int) rfl rfl ⟨rfl, rfl⟩
def ax_f_wal (m : Nat → Nat → Int32) : Int32 := ax_ent (m 11) 8 0
theorem ax_wal (G : sx_G0 g L xs z9 hd_C ex_mt) {σ : am_S} (hS : ax_S σ) : am_K g 2 tX9_walking.1 0 0 0 (lv_args 0 [.ref 4]) [] σ (ax_R (ax_f_wal σ.2.1) σ) := by
  refine kr_aload_n 0 rd_d_X9_walking_0 rfl ?_
  refine kr_getf G.1 (rd_FL rd_k_X9_walking_1).1 rd_d_X9_walking_1 (hS.1 4 (.inl 9) rfl) (v := .ref 11) (by unfold am_fa; rw [(rd_FL rd_k_X9_walking_1).2]; exact hS.2 4 6 11 rfl) ?_
  refine kr_iconst (v := 0) rd_d_X9_walking_4 (by decide) ?_
  refine rd_callS G (T2 := tX11_entry) rfl rd_d_X9_walking_5 rd_k_X9_walking_5 rfl rfl (as := [.ref 11, .int 0]) (st := []) rfl (Nat.le_of_ble_eq_true rfl) rfl (Nat.le_of_ble_eq_true rfl) (d1 := 1) (by decide) (fun _ h => by cases h.1) (ax_entry G (hS.1 11 (.inr (.int, 8)) rfl) (by decide) 0) ?_
  intro v1 σ1 ⟨hv1, hs1⟩
  cases hv1
  rw [hs1]
  exact kr_ireturn rd_d_X9_walking_8 (ty := .int) rfl rfl ⟨rfl, rfl⟩
def ax_f_bas (m : Nat → Nat → Int32) : Int32 := ax_ent (m 11) 8 1
theorem ax_bas (G : sx_G0 g L xs z9 hd_C ex_mt) {σ : am_S} (hS : ax_S σ) : am_K g 2 tX9_basket.1 0 0 0 (lv_args 0 [.ref 4]) [] σ (ax_R (ax_f_bas σ.2.1) σ) := by
  refine kr_aload_n 0 rd_d_X9_basket_0 rfl ?_
  refine kr_getf G.1 (rd_FL rd_k_X9_basket_1).1 rd_d_X9_basket_1 (hS.1 4 (.inl 9) rfl) (v := .ref 11) (by unfold am_fa; rw [(rd_FL rd_k_X9_basket_1).2]; exact hS.2 4 6 11 rfl) ?_
  refine kr_iconst (v := 1) rd_d_X9_basket_4 (by decide) ?_
  refine rd_callS G (T2 := tX11_entry) rfl rd_d_X9_basket_5 rd_k_X9_basket_5 rfl rfl (as := [.ref 11, .int 1]) (st := []) rfl (Nat.le_of_ble_eq_true rfl) rfl (Nat.le_of_ble_eq_true rfl) (d1 := 1) (by decide) (fun _ h => by cases h.1) (ax_entry G (hS.1 11 (.inr (.int, 8)) rfl) (by decide) 1) ?_
  intro v1 σ1 ⟨hv1, hs1⟩
  cases hv1
  rw [hs1]
  exact kr_ireturn rd_d_X9_basket_8 (ty := .int) rfl rfl ⟨rfl, rfl⟩
end AXX
