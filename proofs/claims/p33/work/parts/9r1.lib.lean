/-! exact answers (rows written by a program) -/
theorem ax_inc {k : Int32} {j : Nat} (h : k.toInt = (j : Int)) (hj : j < 100000) : (k + 1).toInt = ((j + 1 : Nat) : Int) := by
  have z1 : (1 : Int32).toInt = 1 := rfl
  rw [sx_addI k 1 (by show (-2147483648 : Int) ≤ _; omega) (by show _ ≤ (2147483647 : Int); omega)]
  omega
theorem ax_ixn {c w : Int32} {C : Nat} (hc : c.toInt = C) (hC : C < 1000) (hw : 0 ≤ w.toInt ∧ w.toInt < 1000) : (c + w).toInt = ((C + w.toInt.toNat : Nat) : Int) := by
  rw [sx_addI c w (by show (-2147483648 : Int) ≤ _; omega) (by show _ ≤ (2147483647 : Int); omega)]
  omega
theorem ax_lkc {a o df : Int} {r : List (Int × Int)} {x A : Int32} (hA : A.toInt = a) (h : ¬ x = A) : Op.lookupswitch.offset ((a, o) :: r) df x.toInt = Op.lookupswitch.offset r df x.toInt := by
  rw [Op.lookupswitch.offset_cons, if_neg (fun e => h (Int32.toInt_inj.mp (by rw [hA, ← e])))]
theorem ax_dec {k : Int32} {f : Nat} (h : k.toInt = ((f + 1 : Nat) : Int) - 1) : (k + (-1)).toInt = (f : Int) - 1 := by
  have z1 : ((-1 : Int32)).toInt = -1 := rfl
  have := Int32.toInt_lt k
  rw [sx_addI k (-1) (by show (-2147483648 : Int) ≤ _; omega) (by show _ ≤ (2147483647 : Int); omega)]
  omega
theorem ax_dec0 {k : Int32} {f : Nat} (h : k.toInt = ((f + 1 : Nat) : Int)) : (k + (-1)).toInt = (f : Int) := by
  have z1 : ((-1 : Int32)).toInt = -1 := rfl
  have := Int32.toInt_lt k
  rw [sx_addI k (-1) (by show (-2147483648 : Int) ≤ _; omega) (by show _ ≤ (2147483647 : Int); omega)]
  omega
def ax_f_max (x y : Int32) : Int32 := if x < y then y else x
theorem ax_isIn_b (a b c : Int32) : narrow .boolean (.int (ax_f_isIn a b c)) = .int (ax_f_isIn a b c) := by
  rw [ax_f_isIn]
  split
  · rfl
  · split <;> rfl
theorem ax_ixc {w : Int32} {n : Nat} (h : w.toInt = (n : Int)) : w.toInt = ((w.toInt.toNat : Nat) : Int) := by omega
theorem rd_d_X9_has_0 : decode tX9_has.1.2.1 0 = .ok (.iload_n 1, 1) := by decide +kernel
theorem rd_d_X9_has_1 : decode tX9_has.1.2.1 1 = .ok (.ifCond .lt 15, 3) := by decide +kernel
theorem rd_d_X9_has_4 : decode tX9_has.1.2.1 4 = .ok (.iload_n 1, 1) := by decide +kernel
theorem rd_d_X9_has_5 : decode tX9_has.1.2.1 5 = .ok (.aload_n 0, 1) := by decide +kernel
theorem rd_d_X9_has_6 : decode tX9_has.1.2.1 6 = .ok (.getfield 39, 3) := by decide +kernel
theorem rd_k_X9_has_6 : ex_lk ex_mt tX9_has 6 (.getfield 39) [9, 7, 0, 65656] = true := by decide +kernel
theorem rd_d_X9_has_9 : decode tX9_has.1.2.1 9 = .ok (.if_icmp .ge 7, 3) := by decide +kernel
theorem rd_d_X9_has_12 : decode tX9_has.1.2.1 12 = .ok (.iconst 1, 1) := by decide +kernel
theorem rd_d_X9_has_13 : decode tX9_has.1.2.1 13 = .ok (.goto 4, 3) := by decide +kernel
theorem rd_d_X9_has_16 : decode tX9_has.1.2.1 16 = .ok (.iconst 0, 1) := by decide +kernel
theorem rd_d_X9_has_17 : decode tX9_has.1.2.1 17 = .ok (.ireturn, 1) := by decide +kernel
theorem rd_d_X12_isWindow_0 : decode tX12_isWindow.1.2.1 0 = .ok (.iload_n 1, 1) := by decide +kernel
theorem rd_d_X12_isWindow_1 : decode tX12_isWindow.1.2.1 1 = .ok (.iconst 0, 1) := by decide +kernel
theorem rd_d_X12_isWindow_2 : decode tX12_isWindow.1.2.1 2 = .ok (.aload_n 0, 1) := by decide +kernel
theorem rd_d_X12_isWindow_3 : decode tX12_isWindow.1.2.1 3 = .ok (.getfield 33, 3) := by decide +kernel
theorem rd_k_X12_isWindow_3 : ex_lk ex_mt tX12_isWindow 3 (.getfield 33) [12, 6, 2, 458777] = true := by decide +kernel
theorem rd_d_X12_isWindow_6 : decode tX12_isWindow.1.2.1 6 = .ok (.iconst 0, 1) := by decide +kernel
theorem rd_d_X12_isWindow_7 : decode tX12_isWindow.1.2.1 7 = .ok (.iaload, 1) := by decide +kernel
theorem rd_d_X12_isWindow_8 : decode tX12_isWindow.1.2.1 8 = .ok (.iconst 1, 1) := by decide +kernel
theorem rd_d_X12_isWindow_9 : decode tX12_isWindow.1.2.1 9 = .ok (.isub, 1) := by decide +kernel
theorem rd_d_X12_isWindow_10 : decode tX12_isWindow.1.2.1 10 = .ok (.invokestatic 134, 3) := by decide +kernel
theorem rd_k_X12_isWindow_10 : ex_lk ex_mt tX12_isWindow 10 (.invokestatic 134) [0, 119, 458957] = true := by decide +kernel
theorem rd_d_X12_isWindow_13 : decode tX12_isWindow.1.2.1 13 = .ok (.ireturn, 1) := by decide +kernel
theorem rd_d_X9_priceOf_0 : decode tX9_priceOf.1.2.1 0 = .ok (.aload_n 0, 1) := by decide +kernel
theorem rd_d_X9_priceOf_1 : decode tX9_priceOf.1.2.1 1 = .ok (.getfield 9, 3) := by decide +kernel
theorem rd_k_X9_priceOf_1 : ex_lk ex_mt tX9_priceOf 1 (.getfield 9) [9, 0, 2, 65649] = true := by decide +kernel
theorem rd_d_X9_priceOf_4 : decode tX9_priceOf.1.2.1 4 = .ok (.iload_n 1, 1) := by decide +kernel
theorem rd_d_X9_priceOf_5 : decode tX9_priceOf.1.2.1 5 = .ok (.invokestatic 118, 3) := by decide +kernel
theorem rd_k_X9_priceOf_5 : ex_lk ex_mt tX9_priceOf 5 (.invokestatic 118) [0, 32, 196745] = true := by decide +kernel
theorem rd_d_X9_priceOf_8 : decode tX9_priceOf.1.2.1 8 = .ok (.ireturn, 1) := by decide +kernel
theorem rd_d_X9_takesOf_0 : decode tX9_takesOf.1.2.1 0 = .ok (.aload_n 0, 1) := by decide +kernel
theorem rd_d_X9_takesOf_1 : decode tX9_takesOf.1.2.1 1 = .ok (.getfield 15, 3) := by decide +kernel
theorem rd_k_X9_takesOf_1 : ex_lk ex_mt tX9_takesOf 1 (.getfield 15) [9, 1, 2, 65650] = true := by decide +kernel
theorem rd_d_X9_takesOf_4 : decode tX9_takesOf.1.2.1 4 = .ok (.iload_n 1, 1) := by decide +kernel
theorem rd_d_X9_takesOf_5 : decode tX9_takesOf.1.2.1 5 = .ok (.invokestatic 118, 3) := by decide +kernel
theorem rd_k_X9_takesOf_5 : ex_lk ex_mt tX9_takesOf 5 (.invokestatic 118) [0, 32, 196745] = true := by decide +kernel
theorem rd_d_X9_takesOf_8 : decode tX9_takesOf.1.2.1 8 = .ok (.ireturn, 1) := by decide +kernel
theorem rd_d_X9_weightFrom_0 : decode tX9_weightFrom.1.2.1 0 = .ok (.iconst 0, 1) := by decide +kernel
theorem rd_d_X9_weightFrom_1 : decode tX9_weightFrom.1.2.1 1 = .ok (.istore_n 2, 1) := by decide +kernel
theorem rd_d_X9_weightFrom_2 : decode tX9_weightFrom.1.2.1 2 = .ok (.iconst 0, 1) := by decide +kernel
theorem rd_d_X9_weightFrom_3 : decode tX9_weightFrom.1.2.1 3 = .ok (.istore_n 3, 1) := by decide +kernel
theorem rd_d_X9_weightFrom_4 : decode tX9_weightFrom.1.2.1 4 = .ok (.iload_n 3, 1) := by decide +kernel
theorem rd_d_X9_weightFrom_5 : decode tX9_weightFrom.1.2.1 5 = .ok (.aload_n 0, 1) := by decide +kernel
theorem rd_d_X9_weightFrom_6 : decode tX9_weightFrom.1.2.1 6 = .ok (.getfield 43, 3) := by decide +kernel
theorem rd_k_X9_weightFrom_6 : ex_lk ex_mt tX9_weightFrom 6 (.getfield 43) [9, 8, 0, 65660] = true := by decide +kernel
theorem rd_d_X9_weightFrom_9 : decode tX9_weightFrom.1.2.1 9 = .ok (.if_icmp .ge 46, 3) := by decide +kernel
theorem rd_d_X9_weightFrom_12 : decode tX9_weightFrom.1.2.1 12 = .ok (.iload_n 3, 1) := by decide +kernel
theorem rd_d_X9_weightFrom_13 : decode tX9_weightFrom.1.2.1 13 = .ok (.aload_n 0, 1) := by decide +kernel
theorem rd_d_X9_weightFrom_14 : decode tX9_weightFrom.1.2.1 14 = .ok (.getfield 24, 3) := by decide +kernel
theorem rd_k_X9_weightFrom_14 : ex_lk ex_mt tX9_weightFrom 14 (.getfield 24) [9, 4, 2, 65653] = true := by decide +kernel
theorem rd_d_X9_weightFrom_17 : decode tX9_weightFrom.1.2.1 17 = .ok (.arraylength, 1) := by decide +kernel
theorem rd_d_X9_weightFrom_18 : decode tX9_weightFrom.1.2.1 18 = .ok (.if_icmp .ge 37, 3) := by decide +kernel
theorem rd_d_X9_weightFrom_21 : decode tX9_weightFrom.1.2.1 21 = .ok (.iload_n 3, 1) := by decide +kernel
theorem rd_d_X9_weightFrom_22 : decode tX9_weightFrom.1.2.1 22 = .ok (.aload_n 0, 1) := by decide +kernel
theorem rd_d_X9_weightFrom_23 : decode tX9_weightFrom.1.2.1 23 = .ok (.getfield 27, 3) := by decide +kernel
theorem rd_k_X9_weightFrom_23 : ex_lk ex_mt tX9_weightFrom 23 (.getfield 27) [9, 5, 2, 65654] = true := by decide +kernel
theorem rd_d_X9_weightFrom_26 : decode tX9_weightFrom.1.2.1 26 = .ok (.arraylength, 1) := by decide +kernel
theorem rd_d_X9_weightFrom_27 : decode tX9_weightFrom.1.2.1 27 = .ok (.if_icmp .ge 28, 3) := by decide +kernel
theorem rd_d_X9_weightFrom_30 : decode tX9_weightFrom.1.2.1 30 = .ok (.aload_n 0, 1) := by decide +kernel
theorem rd_d_X9_weightFrom_31 : decode tX9_weightFrom.1.2.1 31 = .ok (.getfield 24, 3) := by decide +kernel
theorem rd_k_X9_weightFrom_31 : ex_lk ex_mt tX9_weightFrom 31 (.getfield 24) [9, 4, 2, 65653] = true := by decide +kernel
theorem rd_d_X9_weightFrom_34 : decode tX9_weightFrom.1.2.1 34 = .ok (.iload_n 3, 1) := by decide +kernel
theorem rd_d_X9_weightFrom_35 : decode tX9_weightFrom.1.2.1 35 = .ok (.iaload, 1) := by decide +kernel
theorem rd_d_X9_weightFrom_36 : decode tX9_weightFrom.1.2.1 36 = .ok (.iload_n 1, 1) := by decide +kernel
theorem rd_d_X9_weightFrom_37 : decode tX9_weightFrom.1.2.1 37 = .ok (.if_icmp .lt 12, 3) := by decide +kernel
theorem rd_d_X9_weightFrom_40 : decode tX9_weightFrom.1.2.1 40 = .ok (.iload_n 2, 1) := by decide +kernel
theorem rd_d_X9_weightFrom_41 : decode tX9_weightFrom.1.2.1 41 = .ok (.aload_n 0, 1) := by decide +kernel
theorem rd_d_X9_weightFrom_42 : decode tX9_weightFrom.1.2.1 42 = .ok (.getfield 27, 3) := by decide +kernel
theorem rd_k_X9_weightFrom_42 : ex_lk ex_mt tX9_weightFrom 42 (.getfield 27) [9, 5, 2, 65654] = true := by decide +kernel
theorem rd_d_X9_weightFrom_45 : decode tX9_weightFrom.1.2.1 45 = .ok (.iload_n 3, 1) := by decide +kernel
theorem rd_d_X9_weightFrom_46 : decode tX9_weightFrom.1.2.1 46 = .ok (.iaload, 1) := by decide +kernel
theorem rd_d_X9_weightFrom_47 : decode tX9_weightFrom.1.2.1 47 = .ok (.iadd, 1) := by decide +kernel
theorem rd_d_X9_weightFrom_48 : decode tX9_weightFrom.1.2.1 48 = .ok (.istore_n 2, 1) := by decide +kernel
theorem rd_d_X9_weightFrom_49 : decode tX9_weightFrom.1.2.1 49 = .ok (.iinc 3 1, 3) := by decide +kernel
theorem rd_d_X9_weightFrom_52 : decode tX9_weightFrom.1.2.1 52 = .ok (.goto (-48), 3) := by decide +kernel
theorem rd_d_X9_weightFrom_55 : decode tX9_weightFrom.1.2.1 55 = .ok (.iload_n 2, 1) := by decide +kernel
theorem rd_d_X9_weightFrom_56 : decode tX9_weightFrom.1.2.1 56 = .ok (.ireturn, 1) := by decide +kernel
theorem rd_d_X12_standing_0 : decode tX12_standing.1.2.1 0 = .ok (.iconst 0, 1) := by decide +kernel
theorem rd_d_X12_standing_1 : decode tX12_standing.1.2.1 1 = .ok (.istore_n 2, 1) := by decide +kernel
theorem rd_d_X12_standing_2 : decode tX12_standing.1.2.1 2 = .ok (.iconst 0, 1) := by decide +kernel
theorem rd_d_X12_standing_3 : decode tX12_standing.1.2.1 3 = .ok (.istore_n 3, 1) := by decide +kernel
theorem rd_d_X12_standing_4 : decode tX12_standing.1.2.1 4 = .ok (.iload_n 3, 1) := by decide +kernel
theorem rd_d_X12_standing_5 : decode tX12_standing.1.2.1 5 = .ok (.aload_n 0, 1) := by decide +kernel
theorem rd_d_X12_standing_6 : decode tX12_standing.1.2.1 6 = .ok (.invokevirtual 205, 3) := by decide +kernel
theorem rd_k_X12_standing_6 : ex_lk ex_mt tX12_standing 6 (.invokevirtual 205) [0, 171, 524303] = true := by decide +kernel
theorem rd_d_X12_standing_9 : decode tX12_standing.1.2.1 9 = .ok (.if_icmp .ge 30, 3) := by decide +kernel
theorem rd_d_X12_standing_12 : decode tX12_standing.1.2.1 12 = .ok (.iload_n 2, 1) := by decide +kernel
theorem rd_d_X12_standing_13 : decode tX12_standing.1.2.1 13 = .ok (.aload_n 0, 1) := by decide +kernel
theorem rd_d_X12_standing_14 : decode tX12_standing.1.2.1 14 = .ok (.iload_n 3, 1) := by decide +kernel
theorem rd_d_X12_standing_15 : decode tX12_standing.1.2.1 15 = .ok (.invokevirtual 208, 3) := by decide +kernel
theorem rd_k_X12_standing_15 : ex_lk ex_mt tX12_standing 15 (.invokevirtual 208) [0, 163, 524310] = true := by decide +kernel
theorem rd_d_X12_standing_18 : decode tX12_standing.1.2.1 18 = .ok (.iload_n 1, 1) := by decide +kernel
theorem rd_d_X12_standing_19 : decode tX12_standing.1.2.1 19 = .ok (.if_icmp .lt 11, 3) := by decide +kernel
theorem rd_d_X12_standing_22 : decode tX12_standing.1.2.1 22 = .ok (.aload_n 0, 1) := by decide +kernel
theorem rd_d_X12_standing_23 : decode tX12_standing.1.2.1 23 = .ok (.iload_n 3, 1) := by decide +kernel
theorem rd_d_X12_standing_24 : decode tX12_standing.1.2.1 24 = .ok (.invokevirtual 211, 3) := by decide +kernel
theorem rd_k_X12_standing_24 : ex_lk ex_mt tX12_standing 24 (.invokevirtual 211) [0, 186, 524314] = true := by decide +kernel
theorem rd_d_X12_standing_27 : decode tX12_standing.1.2.1 27 = .ok (.goto 4, 3) := by decide +kernel
theorem rd_d_X12_standing_30 : decode tX12_standing.1.2.1 30 = .ok (.iconst 0, 1) := by decide +kernel
theorem rd_d_X12_standing_31 : decode tX12_standing.1.2.1 31 = .ok (.iadd, 1) := by decide +kernel
theorem rd_d_X12_standing_32 : decode tX12_standing.1.2.1 32 = .ok (.istore_n 2, 1) := by decide +kernel
theorem rd_d_X12_standing_33 : decode tX12_standing.1.2.1 33 = .ok (.iinc 3 1, 3) := by decide +kernel
theorem rd_d_X12_standing_36 : decode tX12_standing.1.2.1 36 = .ok (.goto (-32), 3) := by decide +kernel
theorem rd_d_X12_standing_39 : decode tX12_standing.1.2.1 39 = .ok (.iload_n 2, 1) := by decide +kernel
theorem rd_d_X12_standing_40 : decode tX12_standing.1.2.1 40 = .ok (.ireturn, 1) := by decide +kernel
theorem rd_d_X9_shy_0 : decode tX9_shy.1.2.1 0 = .ok (.aload_n 0, 1) := by decide +kernel
theorem rd_d_X9_shy_1 : decode tX9_shy.1.2.1 1 = .ok (.getfield 30, 3) := by decide +kernel
theorem rd_k_X9_shy_1 : ex_lk ex_mt tX9_shy 1 (.getfield 30) [9, 6, 2, 65655] = true := by decide +kernel
theorem rd_d_X9_shy_4 : decode tX9_shy.1.2.1 4 = .ok (.iconst 3, 1) := by decide +kernel
theorem rd_d_X9_shy_5 : decode tX9_shy.1.2.1 5 = .ok (.invokestatic 118, 3) := by decide +kernel
theorem rd_k_X9_shy_5 : ex_lk ex_mt tX9_shy 5 (.invokestatic 118) [0, 32, 196745] = true := by decide +kernel
theorem rd_d_X9_shy_8 : decode tX9_shy.1.2.1 8 = .ok (.ireturn, 1) := by decide +kernel
theorem rd_d_X9_honest_0 : decode tX9_honest.1.2.1 0 = .ok (.aload_n 0, 1) := by decide +kernel
theorem rd_d_X9_honest_1 : decode tX9_honest.1.2.1 1 = .ok (.getfield 30, 3) := by decide +kernel
theorem rd_k_X9_honest_1 : ex_lk ex_mt tX9_honest 1 (.getfield 30) [9, 6, 2, 65655] = true := by decide +kernel
theorem rd_d_X9_honest_4 : decode tX9_honest.1.2.1 4 = .ok (.iconst 2, 1) := by decide +kernel
theorem rd_d_X9_honest_5 : decode tX9_honest.1.2.1 5 = .ok (.invokestatic 118, 3) := by decide +kernel
theorem rd_k_X9_honest_5 : ex_lk ex_mt tX9_honest 5 (.invokestatic 118) [0, 32, 196745] = true := by decide +kernel
theorem rd_d_X9_honest_8 : decode tX9_honest.1.2.1 8 = .ok (.ireturn, 1) := by decide +kernel
theorem rd_d_X9_gainOf_0 : decode tX9_gainOf.1.2.1 0 = .ok (.aload_n 0, 1) := by decide +kernel
theorem rd_d_X9_gainOf_1 : decode tX9_gainOf.1.2.1 1 = .ok (.iload_n 3, 1) := by decide +kernel
theorem rd_d_X9_gainOf_2 : decode tX9_gainOf.1.2.1 2 = .ok (.iconst 1, 1) := by decide +kernel
theorem rd_d_X9_gainOf_3 : decode tX9_gainOf.1.2.1 3 = .ok (.iadd, 1) := by decide +kernel
theorem rd_d_X9_gainOf_4 : decode tX9_gainOf.1.2.1 4 = .ok (.invokevirtual 125, 3) := by decide +kernel
theorem rd_k_X9_gainOf_4 : ex_lk ex_mt tX9_gainOf 4 (.invokevirtual 125) [0, 315, 262289] = true := by decide +kernel
theorem rd_d_X9_gainOf_7 : decode tX9_gainOf.1.2.1 7 = .ok (.istore 4, 2) := by decide +kernel
theorem rd_d_X9_gainOf_9 : decode tX9_gainOf.1.2.1 9 = .ok (.iload_n 2, 1) := by decide +kernel
theorem rd_d_X9_gainOf_10 : decode tX9_gainOf.1.2.1 10 = .ok (.iconst 1, 1) := by decide +kernel
theorem rd_d_X9_gainOf_11 : decode tX9_gainOf.1.2.1 11 = .ok (.if_icmp .ne 20, 3) := by decide +kernel
theorem rd_d_X9_gainOf_14 : decode tX9_gainOf.1.2.1 14 = .ok (.aload_n 0, 1) := by decide +kernel
theorem rd_d_X9_gainOf_15 : decode tX9_gainOf.1.2.1 15 = .ok (.iload_n 1, 1) := by decide +kernel
theorem rd_d_X9_gainOf_16 : decode tX9_gainOf.1.2.1 16 = .ok (.invokevirtual 152, 3) := by decide +kernel
theorem rd_k_X9_gainOf_16 : ex_lk ex_mt tX9_gainOf 16 (.invokevirtual 152) [0, 300, 262293] = true := by decide +kernel
theorem rd_d_X9_gainOf_19 : decode tX9_gainOf.1.2.1 19 = .ok (.bipush 12, 2) := by decide +kernel
theorem rd_d_X9_gainOf_21 : decode tX9_gainOf.1.2.1 21 = .ok (.aload_n 0, 1) := by decide +kernel
theorem rd_d_X9_gainOf_22 : decode tX9_gainOf.1.2.1 22 = .ok (.invokevirtual 155, 3) := by decide +kernel
theorem rd_k_X9_gainOf_22 : ex_lk ex_mt tX9_gainOf 22 (.invokevirtual 155) [0, 311, 262294] = true := by decide +kernel
theorem rd_d_X9_gainOf_25 : decode tX9_gainOf.1.2.1 25 = .ok (.isub, 1) := by decide +kernel
theorem rd_d_X9_gainOf_26 : decode tX9_gainOf.1.2.1 26 = .ok (.imul, 1) := by decide +kernel
theorem rd_d_X9_gainOf_27 : decode tX9_gainOf.1.2.1 27 = .ok (.iload 4, 2) := by decide +kernel
theorem rd_d_X9_gainOf_29 : decode tX9_gainOf.1.2.1 29 = .ok (.imul, 1) := by decide +kernel
theorem rd_d_X9_gainOf_30 : decode tX9_gainOf.1.2.1 30 = .ok (.ireturn, 1) := by decide +kernel
theorem rd_d_X9_gainOf_31 : decode tX9_gainOf.1.2.1 31 = .ok (.aload_n 0, 1) := by decide +kernel
theorem rd_d_X9_gainOf_32 : decode tX9_gainOf.1.2.1 32 = .ok (.iload_n 3, 1) := by decide +kernel
theorem rd_d_X9_gainOf_33 : decode tX9_gainOf.1.2.1 33 = .ok (.aload_n 0, 1) := by decide +kernel
theorem rd_d_X9_gainOf_34 : decode tX9_gainOf.1.2.1 34 = .ok (.iload_n 1, 1) := by decide +kernel
theorem rd_d_X9_gainOf_35 : decode tX9_gainOf.1.2.1 35 = .ok (.invokevirtual 158, 3) := by decide +kernel
theorem rd_k_X9_gainOf_35 : ex_lk ex_mt tX9_gainOf 35 (.invokevirtual 158) [0, 312, 262295] = true := by decide +kernel
theorem rd_d_X9_gainOf_38 : decode tX9_gainOf.1.2.1 38 = .ok (.iadd, 1) := by decide +kernel
theorem rd_d_X9_gainOf_39 : decode tX9_gainOf.1.2.1 39 = .ok (.invokevirtual 125, 3) := by decide +kernel
theorem rd_k_X9_gainOf_39 : ex_lk ex_mt tX9_gainOf 39 (.invokevirtual 125) [0, 315, 262289] = true := by decide +kernel
theorem rd_d_X9_gainOf_42 : decode tX9_gainOf.1.2.1 42 = .ok (.istore 5, 2) := by decide +kernel
theorem rd_d_X9_gainOf_44 : decode tX9_gainOf.1.2.1 44 = .ok (.aload_n 0, 1) := by decide +kernel
theorem rd_d_X9_gainOf_45 : decode tX9_gainOf.1.2.1 45 = .ok (.iload_n 1, 1) := by decide +kernel
theorem rd_d_X9_gainOf_46 : decode tX9_gainOf.1.2.1 46 = .ok (.invokevirtual 152, 3) := by decide +kernel
theorem rd_k_X9_gainOf_46 : ex_lk ex_mt tX9_gainOf 46 (.invokevirtual 152) [0, 300, 262293] = true := by decide +kernel
theorem rd_d_X9_gainOf_49 : decode tX9_gainOf.1.2.1 49 = .ok (.bipush 12, 2) := by decide +kernel
theorem rd_d_X9_gainOf_51 : decode tX9_gainOf.1.2.1 51 = .ok (.iload 5, 2) := by decide +kernel
theorem rd_d_X9_gainOf_53 : decode tX9_gainOf.1.2.1 53 = .ok (.imul, 1) := by decide +kernel
theorem rd_d_X9_gainOf_54 : decode tX9_gainOf.1.2.1 54 = .ok (.aload_n 0, 1) := by decide +kernel
theorem rd_d_X9_gainOf_55 : decode tX9_gainOf.1.2.1 55 = .ok (.invokevirtual 161, 3) := by decide +kernel
theorem rd_k_X9_gainOf_55 : ex_lk ex_mt tX9_gainOf 55 (.invokevirtual 161) [0, 295, 262296] = true := by decide +kernel
theorem rd_d_X9_gainOf_58 : decode tX9_gainOf.1.2.1 58 = .ok (.iload 4, 2) := by decide +kernel
theorem rd_d_X9_gainOf_60 : decode tX9_gainOf.1.2.1 60 = .ok (.iload 5, 2) := by decide +kernel
theorem rd_d_X9_gainOf_62 : decode tX9_gainOf.1.2.1 62 = .ok (.isub, 1) := by decide +kernel
theorem rd_d_X9_gainOf_63 : decode tX9_gainOf.1.2.1 63 = .ok (.imul, 1) := by decide +kernel
theorem rd_d_X9_gainOf_64 : decode tX9_gainOf.1.2.1 64 = .ok (.iadd, 1) := by decide +kernel
theorem rd_d_X9_gainOf_65 : decode tX9_gainOf.1.2.1 65 = .ok (.imul, 1) := by decide +kernel
theorem rd_d_X9_gainOf_66 : decode tX9_gainOf.1.2.1 66 = .ok (.ireturn, 1) := by decide +kernel
theorem rd_d_X12_gainOf_0 : decode tX12_gainOf.1.2.1 0 = .ok (.aload_n 0, 1) := by decide +kernel
theorem rd_d_X12_gainOf_1 : decode tX12_gainOf.1.2.1 1 = .ok (.iload_n 3, 1) := by decide +kernel
theorem rd_d_X12_gainOf_2 : decode tX12_gainOf.1.2.1 2 = .ok (.iconst 1, 1) := by decide +kernel
theorem rd_d_X12_gainOf_3 : decode tX12_gainOf.1.2.1 3 = .ok (.iadd, 1) := by decide +kernel
theorem rd_d_X12_gainOf_4 : decode tX12_gainOf.1.2.1 4 = .ok (.invokevirtual 276, 3) := by decide +kernel
theorem rd_k_X12_gainOf_4 : ex_lk ex_mt tX12_gainOf 4 (.invokevirtual 276) [0, 172, 524433] = true := by decide +kernel
theorem rd_d_X12_gainOf_7 : decode tX12_gainOf.1.2.1 7 = .ok (.istore 4, 2) := by decide +kernel
theorem rd_d_X12_gainOf_9 : decode tX12_gainOf.1.2.1 9 = .ok (.iload_n 2, 1) := by decide +kernel
theorem rd_d_X12_gainOf_10 : decode tX12_gainOf.1.2.1 10 = .ok (.iconst 1, 1) := by decide +kernel
theorem rd_d_X12_gainOf_11 : decode tX12_gainOf.1.2.1 11 = .ok (.if_icmp .ne 26, 3) := by decide +kernel
theorem rd_d_X12_gainOf_14 : decode tX12_gainOf.1.2.1 14 = .ok (.aload_n 0, 1) := by decide +kernel
theorem rd_d_X12_gainOf_15 : decode tX12_gainOf.1.2.1 15 = .ok (.getfield 33, 3) := by decide +kernel
theorem rd_k_X12_gainOf_15 : ex_lk ex_mt tX12_gainOf 15 (.getfield 33) [12, 6, 2, 458777] = true := by decide +kernel
theorem rd_d_X12_gainOf_18 : decode tX12_gainOf.1.2.1 18 = .ok (.iconst 2, 1) := by decide +kernel
theorem rd_d_X12_gainOf_19 : decode tX12_gainOf.1.2.1 19 = .ok (.iload_n 1, 1) := by decide +kernel
theorem rd_d_X12_gainOf_20 : decode tX12_gainOf.1.2.1 20 = .ok (.iadd, 1) := by decide +kernel
theorem rd_d_X12_gainOf_21 : decode tX12_gainOf.1.2.1 21 = .ok (.iaload, 1) := by decide +kernel
theorem rd_d_X12_gainOf_22 : decode tX12_gainOf.1.2.1 22 = .ok (.bipush 12, 2) := by decide +kernel
theorem rd_d_X12_gainOf_24 : decode tX12_gainOf.1.2.1 24 = .ok (.aload_n 0, 1) := by decide +kernel
theorem rd_d_X12_gainOf_25 : decode tX12_gainOf.1.2.1 25 = .ok (.getfield 33, 3) := by decide +kernel
theorem rd_k_X12_gainOf_25 : ex_lk ex_mt tX12_gainOf 25 (.getfield 33) [12, 6, 2, 458777] = true := by decide +kernel
theorem rd_d_X12_gainOf_28 : decode tX12_gainOf.1.2.1 28 = .ok (.bipush 57, 2) := by decide +kernel
theorem rd_d_X12_gainOf_30 : decode tX12_gainOf.1.2.1 30 = .ok (.iaload, 1) := by decide +kernel
theorem rd_d_X12_gainOf_31 : decode tX12_gainOf.1.2.1 31 = .ok (.isub, 1) := by decide +kernel
theorem rd_d_X12_gainOf_32 : decode tX12_gainOf.1.2.1 32 = .ok (.imul, 1) := by decide +kernel
theorem rd_d_X12_gainOf_33 : decode tX12_gainOf.1.2.1 33 = .ok (.iload 4, 2) := by decide +kernel
theorem rd_d_X12_gainOf_35 : decode tX12_gainOf.1.2.1 35 = .ok (.imul, 1) := by decide +kernel
theorem rd_d_X12_gainOf_36 : decode tX12_gainOf.1.2.1 36 = .ok (.ireturn, 1) := by decide +kernel
theorem rd_d_X12_gainOf_37 : decode tX12_gainOf.1.2.1 37 = .ok (.aload_n 0, 1) := by decide +kernel
theorem rd_d_X12_gainOf_38 : decode tX12_gainOf.1.2.1 38 = .ok (.iload_n 3, 1) := by decide +kernel
theorem rd_d_X12_gainOf_39 : decode tX12_gainOf.1.2.1 39 = .ok (.aload_n 0, 1) := by decide +kernel
theorem rd_d_X12_gainOf_40 : decode tX12_gainOf.1.2.1 40 = .ok (.getfield 33, 3) := by decide +kernel
theorem rd_k_X12_gainOf_40 : ex_lk ex_mt tX12_gainOf 40 (.getfield 33) [12, 6, 2, 458777] = true := by decide +kernel
theorem rd_d_X12_gainOf_43 : decode tX12_gainOf.1.2.1 43 = .ok (.bipush 12, 2) := by decide +kernel
theorem rd_d_X12_gainOf_45 : decode tX12_gainOf.1.2.1 45 = .ok (.iload_n 1, 1) := by decide +kernel
theorem rd_d_X12_gainOf_46 : decode tX12_gainOf.1.2.1 46 = .ok (.iadd, 1) := by decide +kernel
theorem rd_d_X12_gainOf_47 : decode tX12_gainOf.1.2.1 47 = .ok (.iaload, 1) := by decide +kernel
theorem rd_d_X12_gainOf_48 : decode tX12_gainOf.1.2.1 48 = .ok (.iadd, 1) := by decide +kernel
theorem rd_d_X12_gainOf_49 : decode tX12_gainOf.1.2.1 49 = .ok (.invokevirtual 276, 3) := by decide +kernel
theorem rd_k_X12_gainOf_49 : ex_lk ex_mt tX12_gainOf 49 (.invokevirtual 276) [0, 172, 524433] = true := by decide +kernel
theorem rd_d_X12_gainOf_52 : decode tX12_gainOf.1.2.1 52 = .ok (.istore 5, 2) := by decide +kernel
theorem rd_d_X12_gainOf_54 : decode tX12_gainOf.1.2.1 54 = .ok (.aload_n 0, 1) := by decide +kernel
theorem rd_d_X12_gainOf_55 : decode tX12_gainOf.1.2.1 55 = .ok (.getfield 33, 3) := by decide +kernel
theorem rd_k_X12_gainOf_55 : ex_lk ex_mt tX12_gainOf 55 (.getfield 33) [12, 6, 2, 458777] = true := by decide +kernel
theorem rd_d_X12_gainOf_58 : decode tX12_gainOf.1.2.1 58 = .ok (.iconst 2, 1) := by decide +kernel
theorem rd_d_X12_gainOf_59 : decode tX12_gainOf.1.2.1 59 = .ok (.iload_n 1, 1) := by decide +kernel
theorem rd_d_X12_gainOf_60 : decode tX12_gainOf.1.2.1 60 = .ok (.iadd, 1) := by decide +kernel
theorem rd_d_X12_gainOf_61 : decode tX12_gainOf.1.2.1 61 = .ok (.iaload, 1) := by decide +kernel
theorem rd_d_X12_gainOf_62 : decode tX12_gainOf.1.2.1 62 = .ok (.bipush 12, 2) := by decide +kernel
theorem rd_d_X12_gainOf_64 : decode tX12_gainOf.1.2.1 64 = .ok (.iload 5, 2) := by decide +kernel
theorem rd_d_X12_gainOf_66 : decode tX12_gainOf.1.2.1 66 = .ok (.imul, 1) := by decide +kernel
theorem rd_d_X12_gainOf_67 : decode tX12_gainOf.1.2.1 67 = .ok (.aload_n 0, 1) := by decide +kernel
theorem rd_d_X12_gainOf_68 : decode tX12_gainOf.1.2.1 68 = .ok (.getfield 33, 3) := by decide +kernel
theorem rd_k_X12_gainOf_68 : ex_lk ex_mt tX12_gainOf 68 (.getfield 33) [12, 6, 2, 458777] = true := by decide +kernel
theorem rd_d_X12_gainOf_71 : decode tX12_gainOf.1.2.1 71 = .ok (.bipush 56, 2) := by decide +kernel
theorem rd_d_X12_gainOf_73 : decode tX12_gainOf.1.2.1 73 = .ok (.iaload, 1) := by decide +kernel
theorem rd_d_X12_gainOf_74 : decode tX12_gainOf.1.2.1 74 = .ok (.iload 4, 2) := by decide +kernel
theorem rd_d_X12_gainOf_76 : decode tX12_gainOf.1.2.1 76 = .ok (.iload 5, 2) := by decide +kernel
theorem rd_d_X12_gainOf_78 : decode tX12_gainOf.1.2.1 78 = .ok (.isub, 1) := by decide +kernel
theorem rd_d_X12_gainOf_79 : decode tX12_gainOf.1.2.1 79 = .ok (.imul, 1) := by decide +kernel
theorem rd_d_X12_gainOf_80 : decode tX12_gainOf.1.2.1 80 = .ok (.iadd, 1) := by decide +kernel
theorem rd_d_X12_gainOf_81 : decode tX12_gainOf.1.2.1 81 = .ok (.imul, 1) := by decide +kernel
theorem rd_d_X12_gainOf_82 : decode tX12_gainOf.1.2.1 82 = .ok (.ireturn, 1) := by decide +kernel
theorem rd_d_X9_betterWay_0 : decode tX9_betterWay.1.2.1 0 = .ok (.aload_n 0, 1) := by decide +kernel
theorem rd_d_X9_betterWay_1 : decode tX9_betterWay.1.2.1 1 = .ok (.iload_n 1, 1) := by decide +kernel
theorem rd_d_X9_betterWay_2 : decode tX9_betterWay.1.2.1 2 = .ok (.iconst 1, 1) := by decide +kernel
theorem rd_d_X9_betterWay_3 : decode tX9_betterWay.1.2.1 3 = .ok (.iload_n 2, 1) := by decide +kernel
theorem rd_d_X9_betterWay_4 : decode tX9_betterWay.1.2.1 4 = .ok (.invokevirtual 164, 3) := by decide +kernel
theorem rd_k_X9_betterWay_4 : ex_lk ex_mt tX9_betterWay 4 (.invokevirtual 164) [0, 293, 262285] = true := by decide +kernel
theorem rd_d_X9_betterWay_7 : decode tX9_betterWay.1.2.1 7 = .ok (.aload_n 0, 1) := by decide +kernel
theorem rd_d_X9_betterWay_8 : decode tX9_betterWay.1.2.1 8 = .ok (.iload_n 1, 1) := by decide +kernel
theorem rd_d_X9_betterWay_9 : decode tX9_betterWay.1.2.1 9 = .ok (.iconst 0, 1) := by decide +kernel
theorem rd_d_X9_betterWay_10 : decode tX9_betterWay.1.2.1 10 = .ok (.iload_n 2, 1) := by decide +kernel
theorem rd_d_X9_betterWay_11 : decode tX9_betterWay.1.2.1 11 = .ok (.invokevirtual 164, 3) := by decide +kernel
theorem rd_k_X9_betterWay_11 : ex_lk ex_mt tX9_betterWay 11 (.invokevirtual 164) [0, 293, 262285] = true := by decide +kernel
theorem rd_d_X9_betterWay_14 : decode tX9_betterWay.1.2.1 14 = .ok (.if_icmp .le 7, 3) := by decide +kernel
theorem rd_d_X9_betterWay_17 : decode tX9_betterWay.1.2.1 17 = .ok (.iconst 1, 1) := by decide +kernel
theorem rd_d_X9_betterWay_18 : decode tX9_betterWay.1.2.1 18 = .ok (.goto 4, 3) := by decide +kernel
theorem rd_d_X9_betterWay_21 : decode tX9_betterWay.1.2.1 21 = .ok (.iconst 0, 1) := by decide +kernel
theorem rd_d_X9_betterWay_22 : decode tX9_betterWay.1.2.1 22 = .ok (.ireturn, 1) := by decide +kernel
theorem rd_d_X12_betterOf_0 : decode tX12_betterOf.1.2.1 0 = .ok (.aload_n 0, 1) := by decide +kernel
theorem rd_d_X12_betterOf_1 : decode tX12_betterOf.1.2.1 1 = .ok (.iload_n 1, 1) := by decide +kernel
theorem rd_d_X12_betterOf_2 : decode tX12_betterOf.1.2.1 2 = .ok (.iconst 1, 1) := by decide +kernel
theorem rd_d_X12_betterOf_3 : decode tX12_betterOf.1.2.1 3 = .ok (.iload_n 2, 1) := by decide +kernel
theorem rd_d_X12_betterOf_4 : decode tX12_betterOf.1.2.1 4 = .ok (.invokevirtual 279, 3) := by decide +kernel
theorem rd_k_X12_betterOf_4 : ex_lk ex_mt tX12_betterOf 4 (.invokevirtual 279) [0, 110, 524429] = true := by decide +kernel
theorem rd_d_X12_betterOf_7 : decode tX12_betterOf.1.2.1 7 = .ok (.aload_n 0, 1) := by decide +kernel
theorem rd_d_X12_betterOf_8 : decode tX12_betterOf.1.2.1 8 = .ok (.iload_n 1, 1) := by decide +kernel
theorem rd_d_X12_betterOf_9 : decode tX12_betterOf.1.2.1 9 = .ok (.iconst 0, 1) := by decide +kernel
theorem rd_d_X12_betterOf_10 : decode tX12_betterOf.1.2.1 10 = .ok (.iload_n 2, 1) := by decide +kernel
theorem rd_d_X12_betterOf_11 : decode tX12_betterOf.1.2.1 11 = .ok (.invokevirtual 279, 3) := by decide +kernel
theorem rd_k_X12_betterOf_11 : ex_lk ex_mt tX12_betterOf 11 (.invokevirtual 279) [0, 110, 524429] = true := by decide +kernel
theorem rd_d_X12_betterOf_14 : decode tX12_betterOf.1.2.1 14 = .ok (.if_icmp .le 7, 3) := by decide +kernel
theorem rd_d_X12_betterOf_17 : decode tX12_betterOf.1.2.1 17 = .ok (.iconst 1, 1) := by decide +kernel
theorem rd_d_X12_betterOf_18 : decode tX12_betterOf.1.2.1 18 = .ok (.goto 4, 3) := by decide +kernel
theorem rd_d_X12_betterOf_21 : decode tX12_betterOf.1.2.1 21 = .ok (.iconst 0, 1) := by decide +kernel
theorem rd_d_X12_betterOf_22 : decode tX12_betterOf.1.2.1 22 = .ok (.ireturn, 1) := by decide +kernel
theorem rd_d_X11_part_0 : decode tX11_part.1.2.1 0 = .ok (.iload_n 0, 1) := by decide +kernel
theorem rd_d_X11_part_1 : decode tX11_part.1.2.1 1 = .ok (.iconst 0, 1) := by decide +kernel
theorem rd_d_X11_part_2 : decode tX11_part.1.2.1 2 = .ok (.invokestatic 362, 3) := by decide +kernel
theorem rd_k_X11_part_2 : ex_lk ex_mt tX11_part 2 (.invokestatic 362) [1, 0, 327784, 0] = true := by decide +kernel
theorem rd_d_X11_part_5 : decode tX11_part.1.2.1 5 = .ok (.istore_n 3, 1) := by decide +kernel
theorem rd_d_X11_part_6 : decode tX11_part.1.2.1 6 = .ok (.iload_n 1, 1) := by decide +kernel
theorem rd_d_X11_part_7 : decode tX11_part.1.2.1 7 = .ok (.iconst 1, 1) := by decide +kernel
theorem rd_d_X11_part_8 : decode tX11_part.1.2.1 8 = .ok (.invokestatic 362, 3) := by decide +kernel
theorem rd_k_X11_part_8 : ex_lk ex_mt tX11_part 8 (.invokestatic 362) [1, 0, 327784, 0] = true := by decide +kernel
theorem rd_d_X11_part_11 : decode tX11_part.1.2.1 11 = .ok (.istore 4, 2) := by decide +kernel
theorem rd_d_X11_part_13 : decode tX11_part.1.2.1 13 = .ok (.iload 4, 2) := by decide +kernel
theorem rd_d_X11_part_15 : decode tX11_part.1.2.1 15 = .ok (.istore 5, 2) := by decide +kernel
theorem rd_d_X11_part_17 : decode tX11_part.1.2.1 17 = .ok (.iload_n 3, 1) := by decide +kernel
theorem rd_d_X11_part_18 : decode tX11_part.1.2.1 18 = .ok (.istore 6, 2) := by decide +kernel
theorem rd_d_X11_part_20 : decode tX11_part.1.2.1 20 = .ok (.iconst 0, 1) := by decide +kernel
theorem rd_d_X11_part_21 : decode tX11_part.1.2.1 21 = .ok (.istore 7, 2) := by decide +kernel
theorem rd_d_X11_part_23 : decode tX11_part.1.2.1 23 = .ok (.iload 7, 2) := by decide +kernel
theorem rd_d_X11_part_25 : decode tX11_part.1.2.1 25 = .ok (.bipush 64, 2) := by decide +kernel
theorem rd_d_X11_part_27 : decode tX11_part.1.2.1 27 = .ok (.if_icmp .ge 29, 3) := by decide +kernel
theorem rd_d_X11_part_30 : decode tX11_part.1.2.1 30 = .ok (.iload 6, 2) := by decide +kernel
theorem rd_d_X11_part_32 : decode tX11_part.1.2.1 32 = .ok (.ifCond .le 24, 3) := by decide +kernel
theorem rd_d_X11_part_35 : decode tX11_part.1.2.1 35 = .ok (.iload 5, 2) := by decide +kernel
theorem rd_d_X11_part_37 : decode tX11_part.1.2.1 37 = .ok (.iload 6, 2) := by decide +kernel
theorem rd_d_X11_part_39 : decode tX11_part.1.2.1 39 = .ok (.irem, 1) := by decide +kernel
theorem rd_d_X11_part_40 : decode tX11_part.1.2.1 40 = .ok (.istore 8, 2) := by decide +kernel
theorem rd_d_X11_part_42 : decode tX11_part.1.2.1 42 = .ok (.iload 6, 2) := by decide +kernel
theorem rd_d_X11_part_44 : decode tX11_part.1.2.1 44 = .ok (.istore 5, 2) := by decide +kernel
theorem rd_d_X11_part_46 : decode tX11_part.1.2.1 46 = .ok (.iload 8, 2) := by decide +kernel
theorem rd_d_X11_part_48 : decode tX11_part.1.2.1 48 = .ok (.istore 6, 2) := by decide +kernel
theorem rd_d_X11_part_50 : decode tX11_part.1.2.1 50 = .ok (.iinc 7 1, 3) := by decide +kernel
theorem rd_d_X11_part_53 : decode tX11_part.1.2.1 53 = .ok (.goto (-30), 3) := by decide +kernel
theorem rd_d_X11_part_56 : decode tX11_part.1.2.1 56 = .ok (.iload 5, 2) := by decide +kernel
theorem rd_d_X11_part_58 : decode tX11_part.1.2.1 58 = .ok (.ifCond .gt 14, 3) := by decide +kernel
theorem rd_d_X11_part_72 : decode tX11_part.1.2.1 72 = .ok (.iload_n 2, 1) := by decide +kernel
theorem rd_d_X11_part_73 : decode tX11_part.1.2.1 73 = .ok (.ifCond .ne 10, 3) := by decide +kernel
theorem rd_d_X11_part_76 : decode tX11_part.1.2.1 76 = .ok (.iload_n 3, 1) := by decide +kernel
theorem rd_d_X11_part_77 : decode tX11_part.1.2.1 77 = .ok (.iload 5, 2) := by decide +kernel
theorem rd_d_X11_part_79 : decode tX11_part.1.2.1 79 = .ok (.idiv, 1) := by decide +kernel
theorem rd_d_X11_part_80 : decode tX11_part.1.2.1 80 = .ok (.goto 8, 3) := by decide +kernel
theorem rd_d_X11_part_83 : decode tX11_part.1.2.1 83 = .ok (.iload 4, 2) := by decide +kernel
theorem rd_d_X11_part_85 : decode tX11_part.1.2.1 85 = .ok (.iload 5, 2) := by decide +kernel
theorem rd_d_X11_part_87 : decode tX11_part.1.2.1 87 = .ok (.idiv, 1) := by decide +kernel
theorem rd_d_X11_part_88 : decode tX11_part.1.2.1 88 = .ok (.ireturn, 1) := by decide +kernel
theorem rd_d_X12_part_0 : decode tX12_part.1.2.1 0 = .ok (.iload_n 0, 1) := by decide +kernel
theorem rd_d_X12_part_1 : decode tX12_part.1.2.1 1 = .ok (.istore_n 3, 1) := by decide +kernel
theorem rd_d_X12_part_2 : decode tX12_part.1.2.1 2 = .ok (.iload_n 1, 1) := by decide +kernel
theorem rd_d_X12_part_3 : decode tX12_part.1.2.1 3 = .ok (.istore 4, 2) := by decide +kernel
theorem rd_d_X12_part_5 : decode tX12_part.1.2.1 5 = .ok (.iload 4, 2) := by decide +kernel
theorem rd_d_X12_part_7 : decode tX12_part.1.2.1 7 = .ok (.ifCond .eq 19, 3) := by decide +kernel
theorem rd_d_X12_part_10 : decode tX12_part.1.2.1 10 = .ok (.iload_n 3, 1) := by decide +kernel
theorem rd_d_X12_part_11 : decode tX12_part.1.2.1 11 = .ok (.iload 4, 2) := by decide +kernel
theorem rd_d_X12_part_13 : decode tX12_part.1.2.1 13 = .ok (.irem, 1) := by decide +kernel
theorem rd_d_X12_part_14 : decode tX12_part.1.2.1 14 = .ok (.istore 5, 2) := by decide +kernel
theorem rd_d_X12_part_16 : decode tX12_part.1.2.1 16 = .ok (.iload 4, 2) := by decide +kernel
theorem rd_d_X12_part_18 : decode tX12_part.1.2.1 18 = .ok (.istore_n 3, 1) := by decide +kernel
theorem rd_d_X12_part_19 : decode tX12_part.1.2.1 19 = .ok (.iload 5, 2) := by decide +kernel
theorem rd_d_X12_part_21 : decode tX12_part.1.2.1 21 = .ok (.istore 4, 2) := by decide +kernel
theorem rd_d_X12_part_23 : decode tX12_part.1.2.1 23 = .ok (.goto (-18), 3) := by decide +kernel
theorem rd_d_X12_part_26 : decode tX12_part.1.2.1 26 = .ok (.iload_n 2, 1) := by decide +kernel
theorem rd_d_X12_part_27 : decode tX12_part.1.2.1 27 = .ok (.ifCond .ne 7, 3) := by decide +kernel
theorem rd_d_X12_part_30 : decode tX12_part.1.2.1 30 = .ok (.iload_n 0, 1) := by decide +kernel
theorem rd_d_X12_part_31 : decode tX12_part.1.2.1 31 = .ok (.goto 4, 3) := by decide +kernel
theorem rd_d_X12_part_34 : decode tX12_part.1.2.1 34 = .ok (.iload_n 1, 1) := by decide +kernel
theorem rd_d_X12_part_35 : decode tX12_part.1.2.1 35 = .ok (.iload_n 3, 1) := by decide +kernel
theorem rd_d_X12_part_36 : decode tX12_part.1.2.1 36 = .ok (.idiv, 1) := by decide +kernel
theorem rd_d_X12_part_37 : decode tX12_part.1.2.1 37 = .ok (.ireturn, 1) := by decide +kernel
theorem rd_d_X9_unit_0 : decode tX9_unit.1.2.1 0 = .ok (.bipush 12, 2) := by decide +kernel
theorem rd_d_X9_unit_2 : decode tX9_unit.1.2.1 2 = .ok (.aload_n 0, 1) := by decide +kernel
theorem rd_d_X9_unit_3 : decode tX9_unit.1.2.1 3 = .ok (.iconst 0, 1) := by decide +kernel
theorem rd_d_X9_unit_4 : decode tX9_unit.1.2.1 4 = .ok (.invokevirtual 125, 3) := by decide +kernel
theorem rd_k_X9_unit_4 : ex_lk ex_mt tX9_unit 4 (.invokevirtual 125) [0, 315, 262289] = true := by decide +kernel
theorem rd_d_X9_unit_7 : decode tX9_unit.1.2.1 7 = .ok (.imul, 1) := by decide +kernel
theorem rd_d_X9_unit_8 : decode tX9_unit.1.2.1 8 = .ok (.ireturn, 1) := by decide +kernel
theorem rd_d_X12_below_0 : decode tX12_below.1.2.1 0 = .ok (.bipush 12, 2) := by decide +kernel
theorem rd_d_X12_below_2 : decode tX12_below.1.2.1 2 = .ok (.aload_n 0, 1) := by decide +kernel
theorem rd_d_X12_below_3 : decode tX12_below.1.2.1 3 = .ok (.iconst 0, 1) := by decide +kernel
theorem rd_d_X12_below_4 : decode tX12_below.1.2.1 4 = .ok (.invokevirtual 276, 3) := by decide +kernel
theorem rd_k_X12_below_4 : ex_lk ex_mt tX12_below 4 (.invokevirtual 276) [0, 172, 524433] = true := by decide +kernel
theorem rd_d_X12_below_7 : decode tX12_below.1.2.1 7 = .ok (.imul, 1) := by decide +kernel
theorem rd_d_X12_below_8 : decode tX12_below.1.2.1 8 = .ok (.ireturn, 1) := by decide +kernel
theorem rd_d_X11_isPart_0 : decode tX11_isPart.1.2.1 0 = .ok (.iload_n 0, 1) := by decide +kernel
theorem rd_d_X11_isPart_1 : decode tX11_isPart.1.2.1 1 = .ok (.ifCond .eq 8, 3) := by decide +kernel
theorem rd_d_X11_isPart_4 : decode tX11_isPart.1.2.1 4 = .ok (.iload_n 0, 1) := by decide +kernel
theorem rd_d_X11_isPart_5 : decode tX11_isPart.1.2.1 5 = .ok (.iconst 1, 1) := by decide +kernel
theorem rd_d_X11_isPart_6 : decode tX11_isPart.1.2.1 6 = .ok (.if_icmp .ne 7, 3) := by decide +kernel
theorem rd_d_X11_isPart_9 : decode tX11_isPart.1.2.1 9 = .ok (.iconst 1, 1) := by decide +kernel
theorem rd_d_X11_isPart_10 : decode tX11_isPart.1.2.1 10 = .ok (.goto 4, 3) := by decide +kernel
theorem rd_d_X11_isPart_13 : decode tX11_isPart.1.2.1 13 = .ok (.iconst 0, 1) := by decide +kernel
theorem rd_d_X11_isPart_14 : decode tX11_isPart.1.2.1 14 = .ok (.ireturn, 1) := by decide +kernel
theorem rd_d_X9_runner_0 : decode tX9_runner.1.2.1 0 = .ok (.aload_n 0, 1) := by decide +kernel
theorem rd_d_X9_runner_1 : decode tX9_runner.1.2.1 1 = .ok (.getfield 30, 3) := by decide +kernel
theorem rd_k_X9_runner_1 : ex_lk ex_mt tX9_runner 1 (.getfield 30) [9, 6, 2, 65655] = true := by decide +kernel
theorem rd_d_X9_runner_4 : decode tX9_runner.1.2.1 4 = .ok (.bipush 6, 2) := by decide +kernel
theorem rd_d_X9_runner_6 : decode tX9_runner.1.2.1 6 = .ok (.invokestatic 118, 3) := by decide +kernel
theorem rd_k_X9_runner_6 : ex_lk ex_mt tX9_runner 6 (.invokestatic 118) [0, 32, 196745] = true := by decide +kernel
theorem rd_d_X9_runner_9 : decode tX9_runner.1.2.1 9 = .ok (.ireturn, 1) := by decide +kernel
theorem rd_d_X11_isSecond_0 : decode tX11_isSecond.1.2.1 0 = .ok (.iload_n 0, 1) := by decide +kernel
theorem rd_d_X11_isSecond_1 : decode tX11_isSecond.1.2.1 1 = .ok (.ifCond .lt 13, 3) := by decide +kernel
theorem rd_d_X11_isSecond_4 : decode tX11_isSecond.1.2.1 4 = .ok (.iload_n 0, 1) := by decide +kernel
theorem rd_d_X11_isSecond_5 : decode tX11_isSecond.1.2.1 5 = .ok (.bipush 60, 2) := by decide +kernel
theorem rd_d_X11_isSecond_7 : decode tX11_isSecond.1.2.1 7 = .ok (.if_icmp .gt 7, 3) := by decide +kernel
theorem rd_d_X11_isSecond_10 : decode tX11_isSecond.1.2.1 10 = .ok (.iconst 1, 1) := by decide +kernel
theorem rd_d_X11_isSecond_11 : decode tX11_isSecond.1.2.1 11 = .ok (.goto 4, 3) := by decide +kernel
theorem rd_d_X11_isSecond_14 : decode tX11_isSecond.1.2.1 14 = .ok (.iconst 0, 1) := by decide +kernel
theorem rd_d_X11_isSecond_15 : decode tX11_isSecond.1.2.1 15 = .ok (.ireturn, 1) := by decide +kernel
theorem rd_d_X11_meant_0 : decode tX11_meant.1.2.1 0 = .ok (.aload_n 0, 1) := by decide +kernel
theorem rd_d_X11_meant_1 : decode tX11_meant.1.2.1 1 = .ok (.getfield 28, 3) := by decide +kernel
theorem rd_k_X11_meant_1 : ex_lk ex_mt tX11_meant 1 (.getfield 28) [11, 2, 2, 131261] = true := by decide +kernel
theorem rd_d_X11_meant_4 : decode tX11_meant.1.2.1 4 = .ok (.iload_n 1, 1) := by decide +kernel
theorem rd_d_X11_meant_5 : decode tX11_meant.1.2.1 5 = .ok (.invokevirtual 147, 3) := by decide +kernel
theorem rd_k_X11_meant_5 : ex_lk ex_mt tX11_meant 5 (.invokevirtual 147) [0, 294, 262148] = true := by decide +kernel
theorem rd_d_X11_meant_8 : decode tX11_meant.1.2.1 8 = .ok (.ifCond .eq 17, 3) := by decide +kernel
theorem rd_d_X11_meant_11 : decode tX11_meant.1.2.1 11 = .ok (.iload_n 2, 1) := by decide +kernel
theorem rd_d_X11_meant_12 : decode tX11_meant.1.2.1 12 = .ok (.invokestatic 270, 3) := by decide +kernel
theorem rd_k_X11_meant_12 : ex_lk ex_mt tX11_meant 12 (.invokestatic 270) [0, 42, 262278] = true := by decide +kernel
theorem rd_d_X11_meant_15 : decode tX11_meant.1.2.1 15 = .ok (.ifCond .eq 10, 3) := by decide +kernel
theorem rd_d_X11_meant_18 : decode tX11_meant.1.2.1 18 = .ok (.iload_n 3, 1) := by decide +kernel
theorem rd_d_X11_meant_19 : decode tX11_meant.1.2.1 19 = .ok (.invokestatic 255, 3) := by decide +kernel
theorem rd_k_X11_meant_19 : ex_lk ex_mt tX11_meant 19 (.invokestatic 255) [0, 41, 393386] = true := by decide +kernel
theorem rd_d_X11_meant_22 : decode tX11_meant.1.2.1 22 = .ok (.ifCond .ne 14, 3) := by decide +kernel
theorem rd_d_X11_meant_25 : decode tX11_meant.1.2.1 25 = .ok (.new 151, 3) := by decide +kernel
theorem rd_k_X11_meant_25 : ex_lk ex_mt tX11_meant 25 (.new 151) [1, 273, 1, 393310, 393406] = true := by decide +kernel
theorem rd_d_X11_meant_36 : decode tX11_meant.1.2.1 36 = .ok (.aload_n 0, 1) := by decide +kernel
theorem rd_d_X11_meant_37 : decode tX11_meant.1.2.1 37 = .ok (.getfield 28, 3) := by decide +kernel
theorem rd_k_X11_meant_37 : ex_lk ex_mt tX11_meant 37 (.getfield 28) [11, 2, 2, 131261] = true := by decide +kernel
theorem rd_d_X11_meant_40 : decode tX11_meant.1.2.1 40 = .ok (.iload_n 2, 1) := by decide +kernel
theorem rd_d_X11_meant_41 : decode tX11_meant.1.2.1 41 = .ok (.iconst 1, 1) := by decide +kernel
theorem rd_d_X11_meant_42 : decode tX11_meant.1.2.1 42 = .ok (.iadd, 1) := by decide +kernel
theorem rd_d_X11_meant_43 : decode tX11_meant.1.2.1 43 = .ok (.invokevirtual 374, 3) := by decide +kernel
theorem rd_k_X11_meant_43 : ex_lk ex_mt tX11_meant 43 (.invokevirtual 374) [0, 315, 393297] = true := by decide +kernel
theorem rd_d_X11_meant_46 : decode tX11_meant.1.2.1 46 = .ok (.istore 4, 2) := by decide +kernel
theorem rd_d_X11_meant_48 : decode tX11_meant.1.2.1 48 = .ok (.iload 4, 2) := by decide +kernel
theorem rd_d_X11_meant_50 : decode tX11_meant.1.2.1 50 = .ok (.aload_n 0, 1) := by decide +kernel
theorem rd_d_X11_meant_51 : decode tX11_meant.1.2.1 51 = .ok (.getfield 28, 3) := by decide +kernel
theorem rd_k_X11_meant_51 : ex_lk ex_mt tX11_meant 51 (.getfield 28) [11, 2, 2, 131261] = true := by decide +kernel
theorem rd_d_X11_meant_54 : decode tX11_meant.1.2.1 54 = .ok (.iload_n 2, 1) := by decide +kernel
theorem rd_d_X11_meant_55 : decode tX11_meant.1.2.1 55 = .ok (.aload_n 0, 1) := by decide +kernel
theorem rd_d_X11_meant_56 : decode tX11_meant.1.2.1 56 = .ok (.getfield 28, 3) := by decide +kernel
theorem rd_k_X11_meant_56 : ex_lk ex_mt tX11_meant 56 (.getfield 28) [11, 2, 2, 131261] = true := by decide +kernel
theorem rd_d_X11_meant_59 : decode tX11_meant.1.2.1 59 = .ok (.iload_n 1, 1) := by decide +kernel
theorem rd_d_X11_meant_60 : decode tX11_meant.1.2.1 60 = .ok (.invokevirtual 162, 3) := by decide +kernel
theorem rd_k_X11_meant_60 : ex_lk ex_mt tX11_meant 60 (.invokevirtual 162) [0, 312, 393375] = true := by decide +kernel
theorem rd_d_X11_meant_63 : decode tX11_meant.1.2.1 63 = .ok (.iadd, 1) := by decide +kernel
theorem rd_d_X11_meant_64 : decode tX11_meant.1.2.1 64 = .ok (.invokevirtual 374, 3) := by decide +kernel
theorem rd_k_X11_meant_64 : ex_lk ex_mt tX11_meant 64 (.invokevirtual 374) [0, 315, 393297] = true := by decide +kernel
theorem rd_d_X11_meant_67 : decode tX11_meant.1.2.1 67 = .ok (.isub, 1) := by decide +kernel
theorem rd_d_X11_meant_68 : decode tX11_meant.1.2.1 68 = .ok (.istore 5, 2) := by decide +kernel
theorem rd_d_X11_meant_70 : decode tX11_meant.1.2.1 70 = .ok (.aload_n 0, 1) := by decide +kernel
theorem rd_d_X11_meant_71 : decode tX11_meant.1.2.1 71 = .ok (.getfield 28, 3) := by decide +kernel
theorem rd_k_X11_meant_71 : ex_lk ex_mt tX11_meant 71 (.getfield 28) [11, 2, 2, 131261] = true := by decide +kernel
theorem rd_d_X11_meant_74 : decode tX11_meant.1.2.1 74 = .ok (.invokevirtual 377, 3) := by decide +kernel
theorem rd_k_X11_meant_74 : ex_lk ex_mt tX11_meant 74 (.invokevirtual 377) [0, 307, 393444] = true := by decide +kernel
theorem rd_d_X11_meant_77 : decode tX11_meant.1.2.1 77 = .ok (.iload 4, 2) := by decide +kernel
theorem rd_d_X11_meant_79 : decode tX11_meant.1.2.1 79 = .ok (.imul, 1) := by decide +kernel
theorem rd_d_X11_meant_80 : decode tX11_meant.1.2.1 80 = .ok (.istore 6, 2) := by decide +kernel
theorem rd_d_X11_meant_82 : decode tX11_meant.1.2.1 82 = .ok (.iload 6, 2) := by decide +kernel
theorem rd_d_X11_meant_84 : decode tX11_meant.1.2.1 84 = .ok (.bipush 12, 2) := by decide +kernel
theorem rd_d_X11_meant_86 : decode tX11_meant.1.2.1 86 = .ok (.aload_n 0, 1) := by decide +kernel
theorem rd_d_X11_meant_87 : decode tX11_meant.1.2.1 87 = .ok (.getfield 28, 3) := by decide +kernel
theorem rd_k_X11_meant_87 : ex_lk ex_mt tX11_meant 87 (.getfield 28) [11, 2, 2, 131261] = true := by decide +kernel
theorem rd_d_X11_meant_90 : decode tX11_meant.1.2.1 90 = .ok (.invokevirtual 377, 3) := by decide +kernel
theorem rd_k_X11_meant_90 : ex_lk ex_mt tX11_meant 90 (.invokevirtual 377) [0, 307, 393444] = true := by decide +kernel
theorem rd_d_X11_meant_93 : decode tX11_meant.1.2.1 93 = .ok (.isub, 1) := by decide +kernel
theorem rd_d_X11_meant_94 : decode tX11_meant.1.2.1 94 = .ok (.iload 5, 2) := by decide +kernel
theorem rd_d_X11_meant_96 : decode tX11_meant.1.2.1 96 = .ok (.imul, 1) := by decide +kernel
theorem rd_d_X11_meant_97 : decode tX11_meant.1.2.1 97 = .ok (.iadd, 1) := by decide +kernel
theorem rd_d_X11_meant_98 : decode tX11_meant.1.2.1 98 = .ok (.istore 7, 2) := by decide +kernel
theorem rd_d_X11_meant_100 : decode tX11_meant.1.2.1 100 = .ok (.iload 7, 2) := by decide +kernel
theorem rd_d_X11_meant_102 : decode tX11_meant.1.2.1 102 = .ok (.ifCond .gt 14, 3) := by decide +kernel
theorem rd_d_X11_meant_105 : decode tX11_meant.1.2.1 105 = .ok (.new 151, 3) := by decide +kernel
theorem rd_k_X11_meant_105 : ex_lk ex_mt tX11_meant 105 (.new 151) [1, 380, 1, 393310, 393448] = true := by decide +kernel
theorem rd_d_X11_meant_116 : decode tX11_meant.1.2.1 116 = .ok (.iload 6, 2) := by decide +kernel
theorem rd_d_X11_meant_118 : decode tX11_meant.1.2.1 118 = .ok (.iload 7, 2) := by decide +kernel
theorem rd_d_X11_meant_120 : decode tX11_meant.1.2.1 120 = .ok (.iload_n 3, 1) := by decide +kernel
theorem rd_d_X11_meant_121 : decode tX11_meant.1.2.1 121 = .ok (.invokestatic 266, 3) := by decide +kernel
theorem rd_k_X11_meant_121 : ex_lk ex_mt tX11_meant 121 (.invokestatic 266) [0, 53, 393396] = true := by decide +kernel
theorem rd_d_X11_meant_124 : decode tX11_meant.1.2.1 124 = .ok (.ireturn, 1) := by decide +kernel
theorem rd_d_L_meant_0 : decode tL_meant.1.2.1 0 = .ok (.aload 4, 2) := by decide +kernel
theorem rd_d_L_meant_2 : decode tL_meant.1.2.1 2 = .ok (.iconst 0, 1) := by decide +kernel
theorem rd_d_L_meant_3 : decode tL_meant.1.2.1 3 = .ok (.aload_n 0, 1) := by decide +kernel
theorem rd_d_L_meant_4 : decode tL_meant.1.2.1 4 = .ok (.iload_n 1, 1) := by decide +kernel
theorem rd_d_L_meant_5 : decode tL_meant.1.2.1 5 = .ok (.iload_n 2, 1) := by decide +kernel
theorem rd_d_L_meant_6 : decode tL_meant.1.2.1 6 = .ok (.iload_n 3, 1) := by decide +kernel
theorem rd_d_L_meant_7 : decode tL_meant.1.2.1 7 = .ok (.invokevirtual 32, 3) := by decide +kernel
theorem rd_k_L_meant_7 : ex_lk ex_mt tL_meant 7 (.invokevirtual 32) [1, 49, 393440, 5, 393305] = true := by decide +kernel
theorem rd_d_L_meant_10 : decode tL_meant.1.2.1 10 = .ok (.i2l, 1) := by decide +kernel
theorem rd_d_L_meant_11 : decode tL_meant.1.2.1 11 = .ok (.lastore, 1) := by decide +kernel
theorem rd_d_L_meant_12 : decode tL_meant.1.2.1 12 = .ok (.goto 7, 3) := by decide +kernel
theorem rd_d_L_meant_19 : decode tL_meant.1.2.1 19 = .ok (.iconst 0, 1) := by decide +kernel
theorem rd_d_L_meant_20 : decode tL_meant.1.2.1 20 = .ok (.ireturn, 1) := by decide +kernel
theorem rd_d_X12_throwsIf_0 : decode tX12_throwsIf.1.2.1 0 = .ok (.aload_n 0, 1) := by decide +kernel
theorem rd_d_X12_throwsIf_1 : decode tX12_throwsIf.1.2.1 1 = .ok (.iload_n 1, 1) := by decide +kernel
theorem rd_d_X12_throwsIf_2 : decode tX12_throwsIf.1.2.1 2 = .ok (.ifCond .eq 7, 3) := by decide +kernel
theorem rd_d_X12_throwsIf_5 : decode tX12_throwsIf.1.2.1 5 = .ok (.iconst 1, 1) := by decide +kernel
theorem rd_d_X12_throwsIf_6 : decode tX12_throwsIf.1.2.1 6 = .ok (.goto 4, 3) := by decide +kernel
theorem rd_d_X12_throwsIf_9 : decode tX12_throwsIf.1.2.1 9 = .ok (.iconst 0, 1) := by decide +kernel
theorem rd_d_X12_throwsIf_10 : decode tX12_throwsIf.1.2.1 10 = .ok (.putfield 1, 3) := by decide +kernel
theorem rd_k_X12_throwsIf_10 : ex_lk ex_mt tX12_throwsIf 10 (.putfield 1) [12, 0, 0, 458771] = true := by decide +kernel
theorem rd_d_X12_throwsIf_13 : decode tX12_throwsIf.1.2.1 13 = .ok (.iload_n 1, 1) := by decide +kernel
theorem rd_d_X12_throwsIf_14 : decode tX12_throwsIf.1.2.1 14 = .ok (.ireturn, 1) := by decide +kernel
theorem rd_d_X12_meant_0 : decode tX12_meant.1.2.1 0 = .ok (.aload_n 0, 1) := by decide +kernel
theorem rd_d_X12_meant_1 : decode tX12_meant.1.2.1 1 = .ok (.aload_n 0, 1) := by decide +kernel
theorem rd_d_X12_meant_2 : decode tX12_meant.1.2.1 2 = .ok (.iload_n 1, 1) := by decide +kernel
theorem rd_d_X12_meant_3 : decode tX12_meant.1.2.1 3 = .ok (.invokevirtual 214, 3) := by decide +kernel
theorem rd_k_X12_meant_3 : ex_lk ex_mt tX12_meant 3 (.invokevirtual 214) [0, 125, 524291] = true := by decide +kernel
theorem rd_d_X12_meant_6 : decode tX12_meant.1.2.1 6 = .ok (.ifCond .eq 22, 3) := by decide +kernel
theorem rd_d_X12_meant_9 : decode tX12_meant.1.2.1 9 = .ok (.iload_n 2, 1) := by decide +kernel
theorem rd_d_X12_meant_10 : decode tX12_meant.1.2.1 10 = .ok (.iconst 0, 1) := by decide +kernel
theorem rd_d_X12_meant_11 : decode tX12_meant.1.2.1 11 = .ok (.bipush 60, 2) := by decide +kernel
theorem rd_d_X12_meant_13 : decode tX12_meant.1.2.1 13 = .ok (.invokestatic 134, 3) := by decide +kernel
theorem rd_k_X12_meant_13 : ex_lk ex_mt tX12_meant 13 (.invokestatic 134) [0, 119, 458957] = true := by decide +kernel
theorem rd_d_X12_meant_16 : decode tX12_meant.1.2.1 16 = .ok (.ifCond .eq 12, 3) := by decide +kernel
theorem rd_d_X12_meant_19 : decode tX12_meant.1.2.1 19 = .ok (.iload_n 3, 1) := by decide +kernel
theorem rd_d_X12_meant_20 : decode tX12_meant.1.2.1 20 = .ok (.iconst 0, 1) := by decide +kernel
theorem rd_d_X12_meant_21 : decode tX12_meant.1.2.1 21 = .ok (.iconst 1, 1) := by decide +kernel
theorem rd_d_X12_meant_22 : decode tX12_meant.1.2.1 22 = .ok (.invokestatic 134, 3) := by decide +kernel
theorem rd_k_X12_meant_22 : ex_lk ex_mt tX12_meant 22 (.invokestatic 134) [0, 119, 458957] = true := by decide +kernel
theorem rd_d_X12_meant_25 : decode tX12_meant.1.2.1 25 = .ok (.ifCond .ne 7, 3) := by decide +kernel
theorem rd_d_X12_meant_28 : decode tX12_meant.1.2.1 28 = .ok (.iconst 1, 1) := by decide +kernel
theorem rd_d_X12_meant_29 : decode tX12_meant.1.2.1 29 = .ok (.goto 4, 3) := by decide +kernel
theorem rd_d_X12_meant_32 : decode tX12_meant.1.2.1 32 = .ok (.iconst 0, 1) := by decide +kernel
theorem rd_d_X12_meant_33 : decode tX12_meant.1.2.1 33 = .ok (.invokevirtual 217, 3) := by decide +kernel
theorem rd_k_X12_meant_33 : ex_lk ex_mt tX12_meant 33 (.invokevirtual 217) [0, 178, 524295] = true := by decide +kernel
theorem rd_d_X12_meant_36 : decode tX12_meant.1.2.1 36 = .ok (.ifCond .eq 5, 3) := by decide +kernel
theorem rd_d_X12_meant_39 : decode tX12_meant.1.2.1 39 = .ok (.iconst 0, 1) := by decide +kernel
theorem rd_d_X12_meant_40 : decode tX12_meant.1.2.1 40 = .ok (.ireturn, 1) := by decide +kernel
theorem rd_d_X12_meant_41 : decode tX12_meant.1.2.1 41 = .ok (.aload_n 0, 1) := by decide +kernel
theorem rd_d_X12_meant_42 : decode tX12_meant.1.2.1 42 = .ok (.iload_n 2, 1) := by decide +kernel
theorem rd_d_X12_meant_43 : decode tX12_meant.1.2.1 43 = .ok (.iconst 1, 1) := by decide +kernel
theorem rd_d_X12_meant_44 : decode tX12_meant.1.2.1 44 = .ok (.iadd, 1) := by decide +kernel
theorem rd_d_X12_meant_45 : decode tX12_meant.1.2.1 45 = .ok (.invokevirtual 276, 3) := by decide +kernel
theorem rd_k_X12_meant_45 : ex_lk ex_mt tX12_meant 45 (.invokevirtual 276) [0, 172, 524433] = true := by decide +kernel
theorem rd_d_X12_meant_48 : decode tX12_meant.1.2.1 48 = .ok (.istore 4, 2) := by decide +kernel
theorem rd_d_X12_meant_50 : decode tX12_meant.1.2.1 50 = .ok (.aload_n 0, 1) := by decide +kernel
theorem rd_d_X12_meant_51 : decode tX12_meant.1.2.1 51 = .ok (.getfield 33, 3) := by decide +kernel
theorem rd_k_X12_meant_51 : ex_lk ex_mt tX12_meant 51 (.getfield 33) [12, 6, 2, 458777] = true := by decide +kernel
theorem rd_d_X12_meant_54 : decode tX12_meant.1.2.1 54 = .ok (.bipush 60, 2) := by decide +kernel
theorem rd_d_X12_meant_56 : decode tX12_meant.1.2.1 56 = .ok (.iaload, 1) := by decide +kernel
theorem rd_d_X12_meant_57 : decode tX12_meant.1.2.1 57 = .ok (.iload 4, 2) := by decide +kernel
theorem rd_d_X12_meant_59 : decode tX12_meant.1.2.1 59 = .ok (.imul, 1) := by decide +kernel
theorem rd_d_X12_meant_60 : decode tX12_meant.1.2.1 60 = .ok (.istore 5, 2) := by decide +kernel
theorem rd_d_X12_meant_62 : decode tX12_meant.1.2.1 62 = .ok (.iload 5, 2) := by decide +kernel
theorem rd_d_X12_meant_64 : decode tX12_meant.1.2.1 64 = .ok (.bipush 12, 2) := by decide +kernel
theorem rd_d_X12_meant_66 : decode tX12_meant.1.2.1 66 = .ok (.aload_n 0, 1) := by decide +kernel
theorem rd_d_X12_meant_67 : decode tX12_meant.1.2.1 67 = .ok (.getfield 33, 3) := by decide +kernel
theorem rd_k_X12_meant_67 : ex_lk ex_mt tX12_meant 67 (.getfield 33) [12, 6, 2, 458777] = true := by decide +kernel
theorem rd_d_X12_meant_70 : decode tX12_meant.1.2.1 70 = .ok (.bipush 60, 2) := by decide +kernel
theorem rd_d_X12_meant_72 : decode tX12_meant.1.2.1 72 = .ok (.iaload, 1) := by decide +kernel
theorem rd_d_X12_meant_73 : decode tX12_meant.1.2.1 73 = .ok (.isub, 1) := by decide +kernel
theorem rd_d_X12_meant_74 : decode tX12_meant.1.2.1 74 = .ok (.iload 4, 2) := by decide +kernel
theorem rd_d_X12_meant_76 : decode tX12_meant.1.2.1 76 = .ok (.aload_n 0, 1) := by decide +kernel
theorem rd_d_X12_meant_77 : decode tX12_meant.1.2.1 77 = .ok (.iload_n 2, 1) := by decide +kernel
theorem rd_d_X12_meant_78 : decode tX12_meant.1.2.1 78 = .ok (.aload_n 0, 1) := by decide +kernel
theorem rd_d_X12_meant_79 : decode tX12_meant.1.2.1 79 = .ok (.getfield 33, 3) := by decide +kernel
theorem rd_k_X12_meant_79 : ex_lk ex_mt tX12_meant 79 (.getfield 33) [12, 6, 2, 458777] = true := by decide +kernel
theorem rd_d_X12_meant_82 : decode tX12_meant.1.2.1 82 = .ok (.bipush 12, 2) := by decide +kernel
theorem rd_d_X12_meant_84 : decode tX12_meant.1.2.1 84 = .ok (.iload_n 1, 1) := by decide +kernel
theorem rd_d_X12_meant_85 : decode tX12_meant.1.2.1 85 = .ok (.iadd, 1) := by decide +kernel
theorem rd_d_X12_meant_86 : decode tX12_meant.1.2.1 86 = .ok (.iaload, 1) := by decide +kernel
theorem rd_d_X12_meant_87 : decode tX12_meant.1.2.1 87 = .ok (.iadd, 1) := by decide +kernel
theorem rd_d_X12_meant_88 : decode tX12_meant.1.2.1 88 = .ok (.invokevirtual 276, 3) := by decide +kernel
theorem rd_k_X12_meant_88 : ex_lk ex_mt tX12_meant 88 (.invokevirtual 276) [0, 172, 524433] = true := by decide +kernel
theorem rd_d_X12_meant_91 : decode tX12_meant.1.2.1 91 = .ok (.isub, 1) := by decide +kernel
theorem rd_d_X12_meant_92 : decode tX12_meant.1.2.1 92 = .ok (.imul, 1) := by decide +kernel
theorem rd_d_X12_meant_93 : decode tX12_meant.1.2.1 93 = .ok (.iadd, 1) := by decide +kernel
theorem rd_d_X12_meant_94 : decode tX12_meant.1.2.1 94 = .ok (.istore 6, 2) := by decide +kernel
theorem rd_d_X12_meant_96 : decode tX12_meant.1.2.1 96 = .ok (.aload_n 0, 1) := by decide +kernel
theorem rd_d_X12_meant_97 : decode tX12_meant.1.2.1 97 = .ok (.iload 6, 2) := by decide +kernel
theorem rd_d_X12_meant_99 : decode tX12_meant.1.2.1 99 = .ok (.ifCond .ne 7, 3) := by decide +kernel
theorem rd_d_X12_meant_102 : decode tX12_meant.1.2.1 102 = .ok (.iconst 1, 1) := by decide +kernel
theorem rd_d_X12_meant_103 : decode tX12_meant.1.2.1 103 = .ok (.goto 4, 3) := by decide +kernel
theorem rd_d_X12_meant_106 : decode tX12_meant.1.2.1 106 = .ok (.iconst 0, 1) := by decide +kernel
theorem rd_d_X12_meant_107 : decode tX12_meant.1.2.1 107 = .ok (.invokevirtual 217, 3) := by decide +kernel
theorem rd_k_X12_meant_107 : ex_lk ex_mt tX12_meant 107 (.invokevirtual 217) [0, 178, 524295] = true := by decide +kernel
theorem rd_d_X12_meant_110 : decode tX12_meant.1.2.1 110 = .ok (.ifCond .eq 7, 3) := by decide +kernel
theorem rd_d_X12_meant_113 : decode tX12_meant.1.2.1 113 = .ok (.iconst 0, 1) := by decide +kernel
theorem rd_d_X12_meant_114 : decode tX12_meant.1.2.1 114 = .ok (.goto 11, 3) := by decide +kernel
theorem rd_d_X12_meant_117 : decode tX12_meant.1.2.1 117 = .ok (.iload 5, 2) := by decide +kernel
theorem rd_d_X12_meant_119 : decode tX12_meant.1.2.1 119 = .ok (.iload 6, 2) := by decide +kernel
theorem rd_d_X12_meant_121 : decode tX12_meant.1.2.1 121 = .ok (.iload_n 3, 1) := by decide +kernel
theorem rd_d_X12_meant_122 : decode tX12_meant.1.2.1 122 = .ok (.invokestatic 272, 3) := by decide +kernel
theorem rd_k_X12_meant_122 : ex_lk ex_mt tX12_meant 122 (.invokestatic 272) [0, 148, 524422] = true := by decide +kernel
theorem rd_d_X12_meant_125 : decode tX12_meant.1.2.1 125 = .ok (.ireturn, 1) := by decide +kernel
theorem rd_d_X12_thrown_0 : decode tX12_thrown.1.2.1 0 = .ok (.aload_n 0, 1) := by decide +kernel
theorem rd_d_X12_thrown_1 : decode tX12_thrown.1.2.1 1 = .ok (.getfield 1, 3) := by decide +kernel
theorem rd_k_X12_thrown_1 : ex_lk ex_mt tX12_thrown 1 (.getfield 1) [12, 0, 0, 458771] = true := by decide +kernel
theorem rd_d_X12_thrown_4 : decode tX12_thrown.1.2.1 4 = .ok (.ireturn, 1) := by decide +kernel
section AXX
variable {g : am_C} {L : Nat} {xs : Nat → Int32}
def pl_Bm (σ : am_S) : Prop := (0 ≤ (σ.2.1 4 7).toInt ∧ (σ.2.1 4 7).toInt ≤ 10) ∧ (0 ≤ (σ.2.1 4 8).toInt ∧ (σ.2.1 4 8).toInt ≤ 6) ∧ pl_B (σ.2.1 120)
theorem pl_Bm_of {σe σ : am_S} {m : Nat} (hM : sx_M z9 hd_C σe m 0 σ) : pl_Bm σ := ⟨hM.2.2.1 4 7 _ _ _ rfl, hM.2.2.1 4 8 _ _ _ rfl, (pl_BM hM).1⟩
def ax_f_has (m : Nat → Nat → Int32) (a : Int32) : Int32 := if a < 0 then 0 else if (m 4 7) ≤ a then 0 else 1
theorem ax_has (G : sx_G0 g L xs z9 hd_C ex_mt) {σ : am_S} (hS : ax_S σ) (a : Int32) : am_K g 1 tX9_has.1 0 0 0 (lv_args 0 [.ref 4, .int a]) [] σ (ax_R (ax_f_has σ.2.1 a) σ) := by
  refine kr_iload_n 1 rd_d_X9_has_0 rfl ?_
  refine kr_if_lt (tgt := 16) rd_d_X9_has_1 rfl (fun h1 => ?_) (fun h1 => ?_)
  · refine kr_iconst (v := 0) rd_d_X9_has_16 (by decide) ?_
    exact kr_ireturn rd_d_X9_has_17 (ty := .boolean) rfl rfl ⟨by rw [ax_f_has, if_pos h1], rfl⟩
  · refine kr_iload_n 1 rd_d_X9_has_4 rfl ?_
    refine kr_aload_n 0 rd_d_X9_has_5 rfl ?_
    refine kr_getf G.1 (rd_FL rd_k_X9_has_6).1 rd_d_X9_has_6 (hS.1 4 (.inl 9) rfl) (v := .int (σ.2.1 4 7)) (by unfold am_fa; rw [(rd_FL rd_k_X9_has_6).2]; rfl) ?_
    refine kr_icmp_ge (tgt := 16) rd_d_X9_has_9 rfl (fun h2 => ?_) (fun h2 => ?_)
    · refine kr_iconst (v := 0) rd_d_X9_has_16 (by decide) ?_
      exact kr_ireturn rd_d_X9_has_17 (ty := .boolean) rfl rfl ⟨by rw [ax_f_has, if_neg h1, if_pos h2], rfl⟩
    · refine kr_iconst (v := 1) rd_d_X9_has_12 (by decide) ?_
      refine kr_goto (tgt := 17) rd_d_X9_has_13 rfl ?_
      exact kr_ireturn rd_d_X9_has_17 (ty := .boolean) rfl rfl ⟨by rw [ax_f_has, if_neg h1, if_neg h2], rfl⟩
def ax_f_win (s : Nat → Int32) (a : Int32) : Int32 := ax_f_isIn a 0 ((s 0) - 1)
theorem ax_win (G : sx_G0 g L xs z9 hd_C ex_mt) {σ : am_S} (hS : ax_S σ) (a : Int32) : am_K g 2 tX12_isWindow.1 0 0 0 (lv_args 0 [.ref 118, .int a]) [] σ (ax_R (ax_f_win (σ.2.1 120) a) σ) := by
  refine kr_iload_n 1 rd_d_X12_isWindow_0 rfl ?_
  refine kr_iconst (v := 0) rd_d_X12_isWindow_1 (by decide) ?_
  refine kr_aload_n 0 rd_d_X12_isWindow_2 rfl ?_
  refine kr_getf G.1 (rd_FL rd_k_X12_isWindow_3).1 rd_d_X12_isWindow_3 (hS.1 118 (.inl 12) rfl) (v := .ref 120) (by unfold am_fa; rw [(rd_FL rd_k_X12_isWindow_3).2]; exact hS.2 118 6 120 rfl) ?_
  refine kr_iconst (v := 0) rd_d_X12_isWindow_6 (by decide) ?_
  refine kr_iald G.1 (n := 277) rd_d_X12_isWindow_7 (hS.1 120 (.inr (.int, 277)) rfl) (hd_in (n := 0) (by decide) (by decide)) ?_
  rw [hd_clamp (n := 0) (by decide)]
  refine kr_iconst (v := 1) rd_d_X12_isWindow_8 (by decide) ?_
  refine kr_isub rd_d_X12_isWindow_9 ?_
  refine rd_callS G (T2 := tX12_isIn) rfl rd_d_X12_isWindow_10 rd_k_X12_isWindow_10 rfl rfl (as := [.int a, .int 0, .int ((σ.2.1 120 0) - 1)]) (st := []) rfl (Nat.le_of_ble_eq_true rfl) rfl (Nat.le_of_ble_eq_true rfl) (d1 := 1) (by decide) (fun _ h => by cases h.1) (ax_isIn G hS a 0 ((σ.2.1 120 0) - 1)) ?_
  intro v1 σ1 ⟨hv1, hs1⟩
  cases hv1
  rw [hs1]
  exact kr_ireturn rd_d_X12_isWindow_13 (ty := .boolean) rfl (ax_isIn_b _ _ _) ⟨rfl, rfl⟩
theorem ax_winI {s : Nat → Int32} (b : pl_B s) {a : Int32} (h : ¬ ax_f_win s a = 0) : 0 ≤ a.toInt ∧ a.toInt < (s 0).toInt ∧ a.toInt < 10 := by
  have z0 : (0 : Int32).toInt = 0 := rfl
  have z1 : (1 : Int32).toInt = 1 := rfl
  obtain ⟨⟨b1, b2⟩, -⟩ := b
  have e := sx_subI (s 0) 1 (by show (-2147483648 : Int) ≤ _; omega) (by show _ ≤ (2147483647 : Int); omega)
  rw [ax_f_win, ax_f_isIn] at h
  split at h
  · exact absurd rfl h
  · rename_i q1
    split at h
    · exact absurd rfl h
    · rename_i q2
      have g1 : ¬ a.toInt < 0 := fun q => q1 (Int32.lt_iff_toInt_lt.mpr (by omega))
      have g2 : ¬ (s 0 - 1).toInt < a.toInt := fun q => q2 (Int32.lt_iff_toInt_lt.mpr q)
      omega
theorem ax_win10 {s : Nat → Int32} (b : pl_B s) {a : Int32} (h : ¬ ax_f_win s a = 0) : 0 ≤ a.toInt ∧ a.toInt < 10 := ⟨(ax_winI b h).1, (ax_winI b h).2.2⟩
theorem pl_w {m : Nat → Nat → Int32} {o : Nat} {s : Nat → Int32} (h : pl_R m o s) : m o 7 = s 0 := Int32.toInt_inj.mp h.1
theorem ax_hasE {m : Nat → Nat → Int32} {s : Nat → Int32} (h : pl_R m 4 s) (b : pl_B s) (a : Int32) : ax_f_has m a = ax_f_win s a := by
  have z0 : (0 : Int32).toInt = 0 := rfl
  have z1 : (1 : Int32).toInt = 1 := rfl
  have hw := pl_w h
  obtain ⟨⟨b1, b2⟩, -⟩ := b
  have e := sx_subI (s 0) 1 (by show (-2147483648 : Int) ≤ _; omega) (by show _ ≤ (2147483647 : Int); omega)
  rw [ax_f_has, ax_f_win, ax_f_isIn, hw]
  by_cases g1 : a < 0
  · rw [if_pos g1, if_pos g1]
  · rw [if_neg g1, if_neg g1]
    by_cases g2 : s 0 ≤ a
    · rw [if_pos g2, if_pos (Int32.lt_iff_toInt_lt.mpr (by have := Int32.le_iff_toInt_le.mp g2; omega))]
    · rw [if_neg g2, if_neg (fun q => g2 (Int32.le_iff_toInt_le.mpr (by have := Int32.lt_iff_toInt_lt.mp q; omega)))]
theorem ax_rowE {m : Nat → Nat → Int32} {s : Nat → Int32} (h : pl_R m 4 s) (b : pl_B s) {a : Int32} (ha : ¬ ax_f_win s a = 0) {r : Nat} (hr : r < 4) : ax_ent (m (5 + r)) 10 a = s (rc_bs r + a.toInt.toNat) := by
  obtain ⟨a1, a2, a3⟩ := ax_winI b ha
  rw [ax_ent_in (k := a.toInt.toNat) (by decide) (by omega) (by omega)]
  have := h.2.2.2 r (by omega) a.toInt.toNat (by rw [rc_c, if_pos hr]; omega)
  rw [show 4 + 1 + r = 5 + r by omega] at this
  exact this
theorem ax_setE {m : Nat → Nat → Int32} {s : Nat → Int32} (h : pl_R m 4 s) {a : Int32} {j : Nat} (e : a.toInt = (j : Int)) (hj : j < 8) : ax_ent (m 11) 8 a = s (54 + j) := by
  rw [ax_ent_in (k := j) (by decide) e hj]
  exact h.2.2.2 6 (by decide) j hj
def ax_f_pri (m : Nat → Nat → Int32) (a : Int32) : Int32 := ax_ent (m 5) 10 a
theorem ax_pri (G : sx_G0 g L xs z9 hd_C ex_mt) {σ : am_S} (hS : ax_S σ) (a : Int32) : am_K g 2 tX9_priceOf.1 0 0 0 (lv_args 0 [.ref 4, .int a]) [] σ (ax_R (ax_f_pri σ.2.1 a) σ) := by
  refine kr_aload_n 0 rd_d_X9_priceOf_0 rfl ?_
  refine kr_getf G.1 (rd_FL rd_k_X9_priceOf_1).1 rd_d_X9_priceOf_1 (hS.1 4 (.inl 9) rfl) (v := .ref 5) (by unfold am_fa; rw [(rd_FL rd_k_X9_priceOf_1).2]; exact hS.2 4 0 5 rfl) ?_
  refine kr_iload_n 1 rd_d_X9_priceOf_4 rfl ?_
  refine rd_callS G (T2 := tX11_entry) rfl rd_d_X9_priceOf_5 rd_k_X9_priceOf_5 rfl rfl (as := [.ref 5, .int a]) (st := []) rfl (Nat.le_of_ble_eq_true rfl) rfl (Nat.le_of_ble_eq_true rfl) (d1 := 1) (by decide) (fun _ h => by cases h.1) (ax_entry G (hS.1 5 (.inr (.int, 10)) rfl) (by decide) a) ?_
  intro v1 σ1 ⟨hv1, hs1⟩
  cases hv1
  rw [hs1]
  exact kr_ireturn rd_d_X9_priceOf_8 (ty := .int) rfl rfl ⟨rfl, rfl⟩
def ax_f_tak (m : Nat → Nat → Int32) (a : Int32) : Int32 := ax_ent (m 6) 10 a
theorem ax_tak (G : sx_G0 g L xs z9 hd_C ex_mt) {σ : am_S} (hS : ax_S σ) (a : Int32) : am_K g 2 tX9_takesOf.1 0 0 0 (lv_args 0 [.ref 4, .int a]) [] σ (ax_R (ax_f_tak σ.2.1 a) σ) := by
  refine kr_aload_n 0 rd_d_X9_takesOf_0 rfl ?_
  refine kr_getf G.1 (rd_FL rd_k_X9_takesOf_1).1 rd_d_X9_takesOf_1 (hS.1 4 (.inl 9) rfl) (v := .ref 6) (by unfold am_fa; rw [(rd_FL rd_k_X9_takesOf_1).2]; exact hS.2 4 1 6 rfl) ?_
  refine kr_iload_n 1 rd_d_X9_takesOf_4 rfl ?_
  refine rd_callS G (T2 := tX11_entry) rfl rd_d_X9_takesOf_5 rd_k_X9_takesOf_5 rfl rfl (as := [.ref 6, .int a]) (st := []) rfl (Nat.le_of_ble_eq_true rfl) rfl (Nat.le_of_ble_eq_true rfl) (d1 := 1) (by decide) (fun _ h => by cases h.1) (ax_entry G (hS.1 6 (.inr (.int, 10)) rfl) (by decide) a) ?_
  intro v1 σ1 ⟨hv1, hs1⟩
  cases hv1
  rw [hs1]
  exact kr_ireturn rd_d_X9_takesOf_8 (ty := .int) rfl rfl ⟨rfl, rfl⟩
def ax_s_wfX (m : Nat → Nat → Int32) (t : Int32) (rec : Int32 → Int32 → Int32) (k z : Int32) : Int32 := if (m 4 8) ≤ k then z else if (nI 6) ≤ k then z else if (nI 6) ≤ k then z else if (m 9 k.toInt.toNat) < t then rec (k + 1) z else rec (k + 1) (z + (m 10 k.toInt.toNat))
def ax_l_wfX (m : Nat → Nat → Int32) (t : Int32) : Nat → Int32 → Int32 → Int32
  | 0, k, z => ax_s_wfX m t (fun _ _ => 0) k z
  | f + 1, k, z => ax_s_wfX m t (ax_l_wfX m t f) k z
theorem ax_l_wfX_zero (m : Nat → Nat → Int32) (t : Int32) (k z : Int32) : ax_l_wfX m t 0 k z = ax_s_wfX m t (fun _ _ => 0) k z := rfl
theorem ax_l_wfX_succ (m : Nat → Nat → Int32) (t : Int32) (f : Nat) (k z : Int32) : ax_l_wfX m t (f + 1) k z = ax_s_wfX m t (ax_l_wfX m t f) k z := rfl
theorem ax_lo_wfX (G : sx_G0 g L xs z9 hd_C ex_mt) {σ : am_S} (hS : ax_S σ) (t : Int32) (hb : (σ.2.1 4 8).toInt ≤ 6) : ∀ (f j : Nat) (k z : Int32), k.toInt = (j : Int) → j + f = 6 → am_K g 1 tX9_weightFrom.1 0 0 4 [(3, .int k), (2, .int z), (0, .ref 4), (1, .int t)] [] σ (ax_R (ax_l_wfX σ.2.1 t f k z) σ) := by
  intro f
  induction f with
  | zero =>
    intro j k z ek hj
    refine kr_iload_n 0 rd_d_X9_weightFrom_4 rfl ?_
    refine kr_aload_n 2 rd_d_X9_weightFrom_5 rfl ?_
    refine kr_getf G.1 (rd_FL rd_k_X9_weightFrom_6).1 rd_d_X9_weightFrom_6 (hS.1 4 (.inl 9) rfl) (v := .int (σ.2.1 4 8)) (by unfold am_fa; rw [(rd_FL rd_k_X9_weightFrom_6).2]; rfl) ?_
    refine kr_icmp_ge (tgt := 55) rd_d_X9_weightFrom_9 rfl (fun h1 => ?_) (fun h1 => ?_)
    · refine kr_iload_n 1 rd_d_X9_weightFrom_55 rfl ?_
      exact kr_ireturn rd_d_X9_weightFrom_56 (ty := .int) rfl rfl ⟨by rw [ax_l_wfX_zero, ax_s_wfX, if_pos h1], rfl⟩
    · exact absurd (Int32.le_iff_toInt_le.mpr (by omega)) h1
  | succ f ih =>
    intro j k z ek hj
    refine kr_iload_n 0 rd_d_X9_weightFrom_4 rfl ?_
    refine kr_aload_n 2 rd_d_X9_weightFrom_5 rfl ?_
    refine kr_getf G.1 (rd_FL rd_k_X9_weightFrom_6).1 rd_d_X9_weightFrom_6 (hS.1 4 (.inl 9) rfl) (v := .int (σ.2.1 4 8)) (by unfold am_fa; rw [(rd_FL rd_k_X9_weightFrom_6).2]; rfl) ?_
    refine kr_icmp_ge (tgt := 55) rd_d_X9_weightFrom_9 rfl (fun h1 => ?_) (fun h1 => ?_)
    · refine kr_iload_n 1 rd_d_X9_weightFrom_55 rfl ?_
      exact kr_ireturn rd_d_X9_weightFrom_56 (ty := .int) rfl rfl ⟨by rw [ax_l_wfX_succ, ax_s_wfX, if_pos h1], rfl⟩
    · refine kr_iload_n 0 rd_d_X9_weightFrom_12 rfl ?_
      refine kr_aload_n 2 rd_d_X9_weightFrom_13 rfl ?_
      refine kr_getf G.1 (rd_FL rd_k_X9_weightFrom_14).1 rd_d_X9_weightFrom_14 (hS.1 4 (.inl 9) rfl) (v := .ref 9) (by unfold am_fa; rw [(rd_FL rd_k_X9_weightFrom_14).2]; exact hS.2 4 4 9 rfl) ?_
      refine kr_alenI G.1 (n := 6) rd_d_X9_weightFrom_17 (hS.1 9 (.inr (.int, 6)) rfl) ?_
      refine kr_icmp_ge (tgt := 55) rd_d_X9_weightFrom_18 rfl (fun h2 => ?_) (fun h2 => ?_)
      · refine kr_iload_n 1 rd_d_X9_weightFrom_55 rfl ?_
        exact kr_ireturn rd_d_X9_weightFrom_56 (ty := .int) rfl rfl ⟨by rw [ax_l_wfX_succ, ax_s_wfX, if_neg h1, if_pos h2], rfl⟩
      · refine kr_iload_n 0 rd_d_X9_weightFrom_21 rfl ?_
        refine kr_aload_n 2 rd_d_X9_weightFrom_22 rfl ?_
        refine kr_getf G.1 (rd_FL rd_k_X9_weightFrom_23).1 rd_d_X9_weightFrom_23 (hS.1 4 (.inl 9) rfl) (v := .ref 10) (by unfold am_fa; rw [(rd_FL rd_k_X9_weightFrom_23).2]; exact hS.2 4 5 10 rfl) ?_
        refine kr_alenI G.1 (n := 6) rd_d_X9_weightFrom_26 (hS.1 10 (.inr (.int, 6)) rfl) ?_
        refine kr_icmp_ge (tgt := 55) rd_d_X9_weightFrom_27 rfl (fun h3 => ?_) (fun h3 => ?_)
        · refine kr_iload_n 1 rd_d_X9_weightFrom_55 rfl ?_
          exact kr_ireturn rd_d_X9_weightFrom_56 (ty := .int) rfl rfl ⟨by rw [ax_l_wfX_succ, ax_s_wfX, if_neg h1, if_neg h2, if_pos h3], rfl⟩
        · refine kr_aload_n 2 rd_d_X9_weightFrom_30 rfl ?_
          refine kr_getf G.1 (rd_FL rd_k_X9_weightFrom_31).1 rd_d_X9_weightFrom_31 (hS.1 4 (.inl 9) rfl) (v := .ref 9) (by unfold am_fa; rw [(rd_FL rd_k_X9_weightFrom_31).2]; exact hS.2 4 4 9 rfl) ?_
          refine kr_iload_n 0 rd_d_X9_weightFrom_34 rfl ?_
          refine kr_iald G.1 (n := 6) rd_d_X9_weightFrom_35 (hS.1 9 (.inr (.int, 6)) rfl) (hd_in (n := k.toInt.toNat) (by omega) (by omega)) ?_
          rw [hd_clamp (n := k.toInt.toNat) (by omega)]
          refine kr_iload_n 3 rd_d_X9_weightFrom_36 rfl ?_
          refine kr_icmp_lt (tgt := 49) rd_d_X9_weightFrom_37 rfl (fun h4 => ?_) (fun h4 => ?_)
          · refine kr_iinc (v := k + 1) (lv' := [(3, .int (k + 1)), (2, .int z), (0, .ref 4), (1, .int t)]) 0 rd_d_X9_weightFrom_49 rfl rfl (by decide) rfl ?_
            refine kr_goto (tgt := 4) rd_d_X9_weightFrom_52 rfl ?_
            rw [ax_l_wfX_succ, ax_s_wfX, if_neg h1, if_neg h2, if_neg h3, if_pos h4]
            exact ih (j + 1) (k + 1) z (ax_inc ek (by omega)) (by omega)
          · refine kr_iload_n 1 rd_d_X9_weightFrom_40 rfl ?_
            refine kr_aload_n 2 rd_d_X9_weightFrom_41 rfl ?_
            refine kr_getf G.1 (rd_FL rd_k_X9_weightFrom_42).1 rd_d_X9_weightFrom_42 (hS.1 4 (.inl 9) rfl) (v := .ref 10) (by unfold am_fa; rw [(rd_FL rd_k_X9_weightFrom_42).2]; exact hS.2 4 5 10 rfl) ?_
            refine kr_iload_n 0 rd_d_X9_weightFrom_45 rfl ?_
            refine kr_iald G.1 (n := 6) rd_d_X9_weightFrom_46 (hS.1 10 (.inr (.int, 6)) rfl) (hd_in (n := k.toInt.toNat) (by omega) (by omega)) ?_
            rw [hd_clamp (n := k.toInt.toNat) (by omega)]
            refine kr_iadd rd_d_X9_weightFrom_47 ?_
            refine kr_istore_n (lv' := [(2, .int (z + (σ.2.1 10 k.toInt.toNat))), (3, .int k), (0, .ref 4), (1, .int t)]) rd_d_X9_weightFrom_48 (by decide) rfl ?_
            refine kr_iinc (v := k + 1) (lv' := [(3, .int (k + 1)), (2, .int (z + (σ.2.1 10 k.toInt.toNat))), (0, .ref 4), (1, .int t)]) 1 rd_d_X9_weightFrom_49 rfl rfl (by decide) rfl ?_
            refine kr_goto (tgt := 4) rd_d_X9_weightFrom_52 rfl ?_
            rw [ax_l_wfX_succ, ax_s_wfX, if_neg h1, if_neg h2, if_neg h3, if_neg h4]
            exact ih (j + 1) (k + 1) (z + (σ.2.1 10 k.toInt.toNat)) (ax_inc ek (by omega)) (by omega)
def ax_f_wf (m : Nat → Nat → Int32) (t : Int32) : Int32 := ax_l_wfX m t 6 0 0
theorem ax_wf (G : sx_G0 g L xs z9 hd_C ex_mt) {σ : am_S} (hS : ax_S σ) (t : Int32) (hb : pl_Bm σ) : am_K g 1 tX9_weightFrom.1 0 0 0 (lv_args 0 [.ref 4, .int t]) [] σ (ax_R (ax_f_wf σ.2.1 t) σ) := by
  refine kr_iconst (v := 0) rd_d_X9_weightFrom_0 (by decide) ?_
  refine kr_istore_n (lv' := [(2, .int 0), (0, .ref 4), (1, .int t)]) rd_d_X9_weightFrom_1 (by decide) rfl ?_
  refine kr_iconst (v := 0) rd_d_X9_weightFrom_2 (by decide) ?_
  refine kr_istore_n (lv' := [(3, .int 0), (2, .int 0), (0, .ref 4), (1, .int t)]) rd_d_X9_weightFrom_3 (by decide) rfl ?_
  rw [ax_f_wf]
  exact kr_less (by decide) (Nat.le_refl _) (Nat.le_refl _) (ax_lo_wfX G hS t hb.2.1.2 6 0 0 0 rfl rfl)
def ax_s_sdM (s : Nat → Int32) (t : Int32) (rec : Int32 → Int32 → Int32) (k z : Int32) : Int32 := if (ax_f_many (s)) ≤ k then z else if (ax_f_secM (s) k (k.toInt.toNat)) < t then rec (k + 1) (z + 0) else rec (k + 1) (z + (ax_f_wgtM (s) k (k.toInt.toNat)))
def ax_l_sdM (s : Nat → Int32) (t : Int32) : Nat → Int32 → Int32 → Int32
  | 0, k, z => ax_s_sdM s t (fun _ _ => 0) k z
  | f + 1, k, z => ax_s_sdM s t (ax_l_sdM s t f) k z
theorem ax_l_sdM_zero (s : Nat → Int32) (t : Int32) (k z : Int32) : ax_l_sdM s t 0 k z = ax_s_sdM s t (fun _ _ => 0) k z := rfl
theorem ax_l_sdM_succ (s : Nat → Int32) (t : Int32) (f : Nat) (k z : Int32) : ax_l_sdM s t (f + 1) k z = ax_s_sdM s t (ax_l_sdM s t f) k z := rfl
theorem ax_lo_sdM (G : sx_G0 g L xs z9 hd_C ex_mt) {σ : am_S} (hS : ax_S σ) (t : Int32) (hb : 0 ≤ (σ.2.1 120 1).toInt ∧ (σ.2.1 120 1).toInt ≤ 6) : ∀ (f j : Nat) (k z : Int32), k.toInt = (j : Int) → j + f = 6 → am_K g 3 tX12_standing.1 0 0 4 [(3, .int k), (2, .int z), (0, .ref 118), (1, .int t)] [] σ (ax_R (ax_l_sdM (σ.2.1 120) t f k z) σ) := by
  intro f
  induction f with
  | zero =>
    intro j k z ek hj
    refine kr_iload_n 0 rd_d_X12_standing_4 rfl ?_
    refine kr_aload_n 2 rd_d_X12_standing_5 rfl ?_
    refine rd_call G (T2 := tX12_standMany) rfl rd_d_X12_standing_6 rd_k_X12_standing_6 rfl (hS.1 118 (.inl 12) rfl) (as := []) (st := [.int k]) rfl (Nat.le_of_ble_eq_true rfl) rfl (Nat.le_of_ble_eq_true rfl) (d1 := 2) (by decide) (fun _ h => by cases h.1) (ax_many G hS ) ?_
    intro v1 σ1 ⟨hv1, hs1⟩
    cases hv1
    rw [hs1]
    refine kr_icmp_ge (tgt := 39) rd_d_X12_standing_9 rfl (fun h2 => ?_) (fun h2 => ?_)
    · refine kr_iload_n 1 rd_d_X12_standing_39 rfl ?_
      exact kr_ireturn rd_d_X12_standing_40 (ty := .int) rfl rfl ⟨by rw [ax_l_sdM_zero, ax_s_sdM, if_pos h2], rfl⟩
    · exact absurd (Int32.le_iff_toInt_le.mpr (by have := (ax_many6 hb).2; omega)) h2
  | succ f ih =>
    intro j k z ek hj
    refine kr_iload_n 0 rd_d_X12_standing_4 rfl ?_
    refine kr_aload_n 2 rd_d_X12_standing_5 rfl ?_
    refine rd_call G (T2 := tX12_standMany) rfl rd_d_X12_standing_6 rd_k_X12_standing_6 rfl (hS.1 118 (.inl 12) rfl) (as := []) (st := [.int k]) rfl (Nat.le_of_ble_eq_true rfl) rfl (Nat.le_of_ble_eq_true rfl) (d1 := 2) (by decide) (fun _ h => by cases h.1) (ax_many G hS ) ?_
    intro v1 σ1 ⟨hv1, hs1⟩
    cases hv1
    rw [hs1]
    refine kr_icmp_ge (tgt := 39) rd_d_X12_standing_9 rfl (fun h2 => ?_) (fun h2 => ?_)
    · refine kr_iload_n 1 rd_d_X12_standing_39 rfl ?_
      exact kr_ireturn rd_d_X12_standing_40 (ty := .int) rfl rfl ⟨by rw [ax_l_sdM_succ, ax_s_sdM, if_pos h2], rfl⟩
    · refine kr_iload_n 1 rd_d_X12_standing_12 rfl ?_
      refine kr_aload_n 2 rd_d_X12_standing_13 rfl ?_
      refine kr_iload_n 0 rd_d_X12_standing_14 rfl ?_
      refine rd_call G (T2 := tX12_secondsOf) rfl rd_d_X12_standing_15 rd_k_X12_standing_15 rfl (hS.1 118 (.inl 12) rfl) (as := [.int k]) (st := [.int z]) rfl (Nat.le_of_ble_eq_true rfl) rfl (Nat.le_of_ble_eq_true rfl) (d1 := 1) (by decide) (fun _ h => by cases h.1) (ax_secM G hS k (k.toInt.toNat) (by omega) (by omega)) ?_
      intro v3 σ3 ⟨hv3, hs3⟩
      cases hv3
      rw [hs3]
      refine kr_iload_n 3 rd_d_X12_standing_18 rfl ?_
      refine kr_icmp_lt (tgt := 30) rd_d_X12_standing_19 rfl (fun h4 => ?_) (fun h4 => ?_)
      · refine kr_iconst (v := 0) rd_d_X12_standing_30 (by decide) ?_
        refine kr_iadd rd_d_X12_standing_31 ?_
        refine kr_istore_n (lv' := [(2, .int (z + 0)), (3, .int k), (0, .ref 118), (1, .int t)]) rd_d_X12_standing_32 (by decide) rfl ?_
        refine kr_iinc (v := k + 1) (lv' := [(3, .int (k + 1)), (2, .int (z + 0)), (0, .ref 118), (1, .int t)]) 1 rd_d_X12_standing_33 rfl rfl (by decide) rfl ?_
        refine kr_goto (tgt := 4) rd_d_X12_standing_36 rfl ?_
        rw [ax_l_sdM_succ, ax_s_sdM, if_neg h2, if_pos h4]
        exact ih (j + 1) (k + 1) (z + 0) (ax_inc ek (by omega)) (by omega)
      · refine kr_aload_n 2 rd_d_X12_standing_22 rfl ?_
        refine kr_iload_n 0 rd_d_X12_standing_23 rfl ?_
        refine rd_call G (T2 := tX12_weightOf) rfl rd_d_X12_standing_24 rd_k_X12_standing_24 rfl (hS.1 118 (.inl 12) rfl) (as := [.int k]) (st := [.int z]) rfl (Nat.le_of_ble_eq_true rfl) rfl (Nat.le_of_ble_eq_true rfl) (d1 := 1) (by decide) (fun _ h => by cases h.1) (ax_wgtM G hS k (k.toInt.toNat) (by omega) (by omega)) ?_
        intro v5 σ5 ⟨hv5, hs5⟩
        cases hv5
        rw [hs5]
        refine kr_goto (tgt := 31) rd_d_X12_standing_27 rfl ?_
        refine kr_iadd rd_d_X12_standing_31 ?_
        refine kr_istore_n (lv' := [(2, .int (z + (ax_f_wgtM (σ.2.1 120) k (k.toInt.toNat)))), (3, .int k), (0, .ref 118), (1, .int t)]) rd_d_X12_standing_32 (by decide) rfl ?_
        refine kr_iinc (v := k + 1) (lv' := [(3, .int (k + 1)), (2, .int (z + (ax_f_wgtM (σ.2.1 120) k (k.toInt.toNat)))), (0, .ref 118), (1, .int t)]) 1 rd_d_X12_standing_33 rfl rfl (by decide) rfl ?_
        refine kr_goto (tgt := 4) rd_d_X12_standing_36 rfl ?_
        rw [ax_l_sdM_succ, ax_s_sdM, if_neg h2, if_neg h4]
        exact ih (j + 1) (k + 1) (z + (ax_f_wgtM (σ.2.1 120) k (k.toInt.toNat))) (ax_inc ek (by omega)) (by omega)
def ax_f_sd (s : Nat → Int32) (t : Int32) : Int32 := ax_l_sdM (s) t 6 0 0
theorem ax_sd (G : sx_G0 g L xs z9 hd_C ex_mt) {σ : am_S} (hS : ax_S σ) (t : Int32) (hb : pl_B (σ.2.1 120)) : am_K g 3 tX12_standing.1 0 0 0 (lv_args 0 [.ref 118, .int t]) [] σ (ax_R (ax_f_sd (σ.2.1 120) t) σ) := by
  refine kr_iconst (v := 0) rd_d_X12_standing_0 (by decide) ?_
  refine kr_istore_n (lv' := [(2, .int 0), (0, .ref 118), (1, .int t)]) rd_d_X12_standing_1 (by decide) rfl ?_
  refine kr_iconst (v := 0) rd_d_X12_standing_2 (by decide) ?_
  refine kr_istore_n (lv' := [(3, .int 0), (2, .int 0), (0, .ref 118), (1, .int t)]) rd_d_X12_standing_3 (by decide) rfl ?_
  rw [ax_f_sd]
  exact kr_less (by decide) (Nat.le_refl _) (Nat.le_refl _) (ax_lo_sdM G hS t hb.2 6 0 0 0 rfl rfl)
theorem wf_l {m : Nat → Nat → Int32} {s : Nat → Int32} (h : pl_R m 4 s) (b : pl_B s) (t : Int32) : ∀ (f j : Nat) (k z : Int32), k.toInt = (j : Int) → j + f = 6 → ax_l_wfX m t f k z = ax_l_sdM s t f k z := by
  have hN := pl_many h b
  have hn := ax_many6 (s := s) b.2
  have hm : ax_f_many s = m 4 8 := Int32.toInt_inj.mp hN
  have n6 : (nI 6).toInt = 6 := rfl
  have z0 : ∀ x : Int32, x + 0 = x := fun x => Int32.add_zero x
  intro f
  induction f with
  | zero =>
    intro j k z ek hj
    rw [ax_l_wfX_zero, ax_l_sdM_zero, ax_s_wfX, ax_s_sdM, hm, if_pos (Int32.le_iff_toInt_le.mpr (by omega)), if_pos (Int32.le_iff_toInt_le.mpr (by omega))]
  | succ f ih =>
    intro j k z ek hj
    rw [ax_l_wfX_succ, ax_l_sdM_succ, ax_s_wfX, ax_s_sdM, hm]
    by_cases q : m 4 8 ≤ k
    · rw [if_pos q, if_pos q]
    · have q' : ¬ (m 4 8).toInt ≤ k.toInt := fun e => q (Int32.le_iff_toInt_le.mpr e)
      have q6 : ¬ nI 6 ≤ k := fun e => by have := Int32.le_iff_toInt_le.mp e; omega
      obtain ⟨p1, p2⟩ := pl_sec h b (a := k) (j := k.toInt.toNat) (by omega) (by omega)
      rw [ax_f_secX, ax_ent_in (k := k.toInt.toNat) (by decide) (by omega) (by omega)] at p1
      rw [ax_f_wgtX, ax_ent_in (k := k.toInt.toNat) (by decide) (by omega) (by omega)] at p2
      rw [if_neg q, if_neg q, if_neg q6, if_neg q6, p1, p2]
      split
      · rw [z0]; exact ih (j + 1) _ _ (ax_inc ek (by omega)) (by omega)
      · exact ih (j + 1) _ _ (ax_inc ek (by omega)) (by omega)
theorem wf_eq {m : Nat → Nat → Int32} {s : Nat → Int32} (h : pl_R m 4 s) (b : pl_B s) (t : Int32) : ax_f_wf m t = ax_f_sd s t := by
  rw [ax_f_wf, ax_f_sd]
  exact wf_l h b t 6 0 0 0 rfl rfl
def ax_f_shy (m : Nat → Nat → Int32) : Int32 := ax_ent (m 11) 8 3
theorem ax_shy (G : sx_G0 g L xs z9 hd_C ex_mt) {σ : am_S} (hS : ax_S σ) : am_K g 2 tX9_shy.1 0 0 0 (lv_args 0 [.ref 4]) [] σ (ax_R (ax_f_shy σ.2.1) σ) := by
  refine kr_aload_n 0 rd_d_X9_shy_0 rfl ?_
  refine kr_getf G.1 (rd_FL rd_k_X9_shy_1).1 rd_d_X9_shy_1 (hS.1 4 (.inl 9) rfl) (v := .ref 11) (by unfold am_fa; rw [(rd_FL rd_k_X9_shy_1).2]; exact hS.2 4 6 11 rfl) ?_
  refine kr_iconst (v := 3) rd_d_X9_shy_4 (by decide) ?_
  refine rd_callS G (T2 := tX11_entry) rfl rd_d_X9_shy_5 rd_k_X9_shy_5 rfl rfl (as := [.ref 11, .int 3]) (st := []) rfl (Nat.le_of_ble_eq_true rfl) rfl (Nat.le_of_ble_eq_true rfl) (d1 := 1) (by decide) (fun _ h => by cases h.1) (ax_entry G (hS.1 11 (.inr (.int, 8)) rfl) (by decide) 3) ?_
  intro v1 σ1 ⟨hv1, hs1⟩
  cases hv1
  rw [hs1]
  exact kr_ireturn rd_d_X9_shy_8 (ty := .int) rfl rfl ⟨rfl, rfl⟩
def ax_f_hon (m : Nat → Nat → Int32) : Int32 := ax_ent (m 11) 8 2
theorem ax_hon (G : sx_G0 g L xs z9 hd_C ex_mt) {σ : am_S} (hS : ax_S σ) : am_K g 2 tX9_honest.1 0 0 0 (lv_args 0 [.ref 4]) [] σ (ax_R (ax_f_hon σ.2.1) σ) := by
  refine kr_aload_n 0 rd_d_X9_honest_0 rfl ?_
  refine kr_getf G.1 (rd_FL rd_k_X9_honest_1).1 rd_d_X9_honest_1 (hS.1 4 (.inl 9) rfl) (v := .ref 11) (by unfold am_fa; rw [(rd_FL rd_k_X9_honest_1).2]; exact hS.2 4 6 11 rfl) ?_
  refine kr_iconst (v := 2) rd_d_X9_honest_4 (by decide) ?_
  refine rd_callS G (T2 := tX11_entry) rfl rd_d_X9_honest_5 rd_k_X9_honest_5 rfl rfl (as := [.ref 11, .int 2]) (st := []) rfl (Nat.le_of_ble_eq_true rfl) rfl (Nat.le_of_ble_eq_true rfl) (d1 := 1) (by decide) (fun _ h => by cases h.1) (ax_entry G (hS.1 11 (.inr (.int, 8)) rfl) (by decide) 2) ?_
  intro v1 σ1 ⟨hv1, hs1⟩
  cases hv1
  rw [hs1]
  exact kr_ireturn rd_d_X9_honest_8 (ty := .int) rfl rfl ⟨rfl, rfl⟩
def ax_f_gnX (m : Nat → Nat → Int32) (a b t : Int32) : Int32 := if b = 1 then ((ax_f_pri m a) * (12 - (ax_f_shy m))) * (ax_f_wf m (t + 1)) else (ax_f_pri m a) * ((12 * (ax_f_wf m (t + (ax_f_tak m a)))) + ((ax_f_hon m) * ((ax_f_wf m (t + 1)) - (ax_f_wf m (t + (ax_f_tak m a))))))
theorem ax_gnX (G : sx_G0 g L xs z9 hd_C ex_mt) {σ : am_S} (hS : ax_S σ) (a b t : Int32) (hb : pl_Bm σ) : am_K g 3 tX9_gainOf.1 0 0 0 (lv_args 0 [.ref 4, .int a, .int b, .int t]) [] σ (ax_R (ax_f_gnX σ.2.1 a b t) σ) := by
  refine kr_aload_n 0 rd_d_X9_gainOf_0 rfl ?_
  refine kr_iload_n 3 rd_d_X9_gainOf_1 rfl ?_
  refine kr_iconst (v := 1) rd_d_X9_gainOf_2 (by decide) ?_
  refine kr_iadd rd_d_X9_gainOf_3 ?_
  refine rd_call G (T2 := tX9_weightFrom) rfl rd_d_X9_gainOf_4 rd_k_X9_gainOf_4 rfl (hS.1 4 (.inl 9) rfl) (as := [.int (t + 1)]) (st := []) rfl (Nat.le_of_ble_eq_true rfl) rfl (Nat.le_of_ble_eq_true rfl) (d1 := 1) (by decide) (fun _ h => by cases h.1) (ax_wf G hS (t + 1) hb) ?_
  intro v1 σ1 ⟨hv1, hs1⟩
  cases hv1
  rw [hs1]
  refine kr_istore (lv' := [(4, .int (ax_f_wf σ.2.1 (t + 1))), (0, .ref 4), (1, .int a), (2, .int b), (3, .int t)]) rd_d_X9_gainOf_7 (by decide) rfl ?_
  refine kr_iload_n 3 rd_d_X9_gainOf_9 rfl ?_
  refine kr_iconst (v := 1) rd_d_X9_gainOf_10 (by decide) ?_
  refine kr_icmp_ne (tgt := 31) rd_d_X9_gainOf_11 rfl (fun h2 => ?_) (fun h2 => ?_)
  · refine kr_aload_n 1 rd_d_X9_gainOf_31 rfl ?_
    refine kr_iload_n 4 rd_d_X9_gainOf_32 rfl ?_
    refine kr_aload_n 1 rd_d_X9_gainOf_33 rfl ?_
    refine kr_iload_n 2 rd_d_X9_gainOf_34 rfl ?_
    refine rd_call G (T2 := tX9_takesOf) rfl rd_d_X9_gainOf_35 rd_k_X9_gainOf_35 rfl (hS.1 4 (.inl 9) rfl) (as := [.int a]) (st := [.int t, .ref 4]) rfl (Nat.le_of_ble_eq_true rfl) rfl (Nat.le_of_ble_eq_true rfl) (d1 := 2) (by decide) (fun _ h => by cases h.1) (ax_tak G hS a) ?_
    intro v3 σ3 ⟨hv3, hs3⟩
    cases hv3
    rw [hs3]
    refine kr_iadd rd_d_X9_gainOf_38 ?_
    refine rd_call G (T2 := tX9_weightFrom) rfl rd_d_X9_gainOf_39 rd_k_X9_gainOf_39 rfl (hS.1 4 (.inl 9) rfl) (as := [.int (t + (ax_f_tak σ.2.1 a))]) (st := []) rfl (Nat.le_of_ble_eq_true rfl) rfl (Nat.le_of_ble_eq_true rfl) (d1 := 1) (by decide) (fun _ h => by cases h.1) (ax_wf G hS (t + (ax_f_tak σ.2.1 a)) hb) ?_
    intro v4 σ4 ⟨hv4, hs4⟩
    cases hv4
    rw [hs4]
    refine kr_istore (lv' := [(5, .int (ax_f_wf σ.2.1 (t + (ax_f_tak σ.2.1 a)))), (4, .int (ax_f_wf σ.2.1 (t + 1))), (0, .ref 4), (1, .int a), (2, .int b), (3, .int t)]) rd_d_X9_gainOf_42 (by decide) rfl ?_
    refine kr_aload_n 2 rd_d_X9_gainOf_44 rfl ?_
    refine kr_iload_n 3 rd_d_X9_gainOf_45 rfl ?_
    refine rd_call G (T2 := tX9_priceOf) rfl rd_d_X9_gainOf_46 rd_k_X9_gainOf_46 rfl (hS.1 4 (.inl 9) rfl) (as := [.int a]) (st := []) rfl (Nat.le_of_ble_eq_true rfl) rfl (Nat.le_of_ble_eq_true rfl) (d1 := 2) (by decide) (fun _ h => by cases h.1) (ax_pri G hS a) ?_
    intro v5 σ5 ⟨hv5, hs5⟩
    cases hv5
    rw [hs5]
    refine kr_bipush (v := 12) rd_d_X9_gainOf_49 (by decide) ?_
    refine kr_iload 0 rd_d_X9_gainOf_51 rfl ?_
    refine kr_imul rd_d_X9_gainOf_53 ?_
    refine kr_aload_n 2 rd_d_X9_gainOf_54 rfl ?_
    refine rd_call G (T2 := tX9_honest) rfl rd_d_X9_gainOf_55 rd_k_X9_gainOf_55 rfl (hS.1 4 (.inl 9) rfl) (as := []) (st := [.int (12 * (ax_f_wf σ.2.1 (t + (ax_f_tak σ.2.1 a)))), .int (ax_f_pri σ.2.1 a)]) rfl (Nat.le_of_ble_eq_true rfl) rfl (Nat.le_of_ble_eq_true rfl) (d1 := 2) (by decide) (fun _ h => by cases h.1) (ax_hon G hS) ?_
    intro v6 σ6 ⟨hv6, hs6⟩
    cases hv6
    rw [hs6]
    refine kr_iload 1 rd_d_X9_gainOf_58 rfl ?_
    refine kr_iload 0 rd_d_X9_gainOf_60 rfl ?_
    refine kr_isub rd_d_X9_gainOf_62 ?_
    refine kr_imul rd_d_X9_gainOf_63 ?_
    refine kr_iadd rd_d_X9_gainOf_64 ?_
    refine kr_imul rd_d_X9_gainOf_65 ?_
    exact kr_ireturn rd_d_X9_gainOf_66 (ty := .int) rfl rfl ⟨by rw [ax_f_gnX, if_neg h2], rfl⟩
  · refine kr_aload_n 1 rd_d_X9_gainOf_14 rfl ?_
    refine kr_iload_n 2 rd_d_X9_gainOf_15 rfl ?_
    refine rd_call G (T2 := tX9_priceOf) rfl rd_d_X9_gainOf_16 rd_k_X9_gainOf_16 rfl (hS.1 4 (.inl 9) rfl) (as := [.int a]) (st := []) rfl (Nat.le_of_ble_eq_true rfl) rfl (Nat.le_of_ble_eq_true rfl) (d1 := 2) (by decide) (fun _ h => by cases h.1) (ax_pri G hS a) ?_
    intro v7 σ7 ⟨hv7, hs7⟩
    cases hv7
    rw [hs7]
    refine kr_bipush (v := 12) rd_d_X9_gainOf_19 (by decide) ?_
    refine kr_aload_n 1 rd_d_X9_gainOf_21 rfl ?_
    refine rd_call G (T2 := tX9_shy) rfl rd_d_X9_gainOf_22 rd_k_X9_gainOf_22 rfl (hS.1 4 (.inl 9) rfl) (as := []) (st := [.int 12, .int (ax_f_pri σ.2.1 a)]) rfl (Nat.le_of_ble_eq_true rfl) rfl (Nat.le_of_ble_eq_true rfl) (d1 := 2) (by decide) (fun _ h => by cases h.1) (ax_shy G hS) ?_
    intro v8 σ8 ⟨hv8, hs8⟩
    cases hv8
    rw [hs8]
    refine kr_isub rd_d_X9_gainOf_25 ?_
    refine kr_imul rd_d_X9_gainOf_26 ?_
    refine kr_iload 0 rd_d_X9_gainOf_27 rfl ?_
    refine kr_imul rd_d_X9_gainOf_29 ?_
    exact kr_ireturn rd_d_X9_gainOf_30 (ty := .int) rfl rfl ⟨by rw [ax_f_gnX, if_pos h2], rfl⟩
def ax_f_gnM (s : Nat → Int32) (a b t : Int32) : Int32 := if b = 1 then ((s (2 + a.toInt.toNat)) * (12 - (s 57))) * (ax_f_sd (s) (t + 1)) else (s (2 + a.toInt.toNat)) * ((12 * (ax_f_sd (s) (t + (s (12 + a.toInt.toNat))))) + ((s 56) * ((ax_f_sd (s) (t + 1)) - (ax_f_sd (s) (t + (s (12 + a.toInt.toNat)))))))
theorem ax_gnM (G : sx_G0 g L xs z9 hd_C ex_mt) {σ : am_S} (hS : ax_S σ) (a b t : Int32) (hb : pl_B (σ.2.1 120)) (ha : 0 ≤ a.toInt ∧ a.toInt < 10) : am_K g 4 tX12_gainOf.1 0 0 0 (lv_args 0 [.ref 118, .int a, .int b, .int t]) [] σ (ax_R (ax_f_gnM (σ.2.1 120) a b t) σ) := by
  refine kr_aload_n 0 rd_d_X12_gainOf_0 rfl ?_
  refine kr_iload_n 3 rd_d_X12_gainOf_1 rfl ?_
  refine kr_iconst (v := 1) rd_d_X12_gainOf_2 (by decide) ?_
  refine kr_iadd rd_d_X12_gainOf_3 ?_
  refine rd_call G (T2 := tX12_standing) rfl rd_d_X12_gainOf_4 rd_k_X12_gainOf_4 rfl (hS.1 118 (.inl 12) rfl) (as := [.int (t + 1)]) (st := []) rfl (Nat.le_of_ble_eq_true rfl) rfl (Nat.le_of_ble_eq_true rfl) (d1 := 3) (by decide) (fun _ h => by cases h.1) (ax_sd G hS (t + 1) hb) ?_
  intro v1 σ1 ⟨hv1, hs1⟩
  cases hv1
  rw [hs1]
  refine kr_istore (lv' := [(4, .int (ax_f_sd (σ.2.1 120) (t + 1))), (0, .ref 118), (1, .int a), (2, .int b), (3, .int t)]) rd_d_X12_gainOf_7 (by decide) rfl ?_
  refine kr_iload_n 3 rd_d_X12_gainOf_9 rfl ?_
  refine kr_iconst (v := 1) rd_d_X12_gainOf_10 (by decide) ?_
  refine kr_icmp_ne (tgt := 37) rd_d_X12_gainOf_11 rfl (fun h2 => ?_) (fun h2 => ?_)
  · refine kr_aload_n 1 rd_d_X12_gainOf_37 rfl ?_
    refine kr_iload_n 4 rd_d_X12_gainOf_38 rfl ?_
    refine kr_aload_n 1 rd_d_X12_gainOf_39 rfl ?_
    refine kr_getf G.1 (rd_FL rd_k_X12_gainOf_40).1 rd_d_X12_gainOf_40 (hS.1 118 (.inl 12) rfl) (v := .ref 120) (by unfold am_fa; rw [(rd_FL rd_k_X12_gainOf_40).2]; exact hS.2 118 6 120 rfl) ?_
    refine kr_bipush (v := 12) rd_d_X12_gainOf_43 (by decide) ?_
    refine kr_iload_n 2 rd_d_X12_gainOf_45 rfl ?_
    refine kr_iadd rd_d_X12_gainOf_46 ?_
    refine kr_iald G.1 (n := 277) rd_d_X12_gainOf_47 (hS.1 120 (.inr (.int, 277)) rfl) (hd_in (n := 12 + a.toInt.toNat) (ax_ixn (C := 12) (by decide) (by decide) ⟨ha.1, Int.lt_trans ha.2 (by decide)⟩) (by omega)) ?_
    rw [hd_clamp (n := 12 + a.toInt.toNat) (ax_ixn (C := 12) (by decide) (by decide) ⟨ha.1, Int.lt_trans ha.2 (by decide)⟩)]
    refine kr_iadd rd_d_X12_gainOf_48 ?_
    refine rd_call G (T2 := tX12_standing) rfl rd_d_X12_gainOf_49 rd_k_X12_gainOf_49 rfl (hS.1 118 (.inl 12) rfl) (as := [.int (t + (σ.2.1 120 (12 + a.toInt.toNat)))]) (st := []) rfl (Nat.le_of_ble_eq_true rfl) rfl (Nat.le_of_ble_eq_true rfl) (d1 := 3) (by decide) (fun _ h => by cases h.1) (ax_sd G hS (t + (σ.2.1 120 (12 + a.toInt.toNat))) hb) ?_
    intro v3 σ3 ⟨hv3, hs3⟩
    cases hv3
    rw [hs3]
    refine kr_istore (lv' := [(5, .int (ax_f_sd (σ.2.1 120) (t + (σ.2.1 120 (12 + a.toInt.toNat))))), (4, .int (ax_f_sd (σ.2.1 120) (t + 1))), (0, .ref 118), (1, .int a), (2, .int b), (3, .int t)]) rd_d_X12_gainOf_52 (by decide) rfl ?_
    refine kr_aload_n 2 rd_d_X12_gainOf_54 rfl ?_
    refine kr_getf G.1 (rd_FL rd_k_X12_gainOf_55).1 rd_d_X12_gainOf_55 (hS.1 118 (.inl 12) rfl) (v := .ref 120) (by unfold am_fa; rw [(rd_FL rd_k_X12_gainOf_55).2]; exact hS.2 118 6 120 rfl) ?_
    refine kr_iconst (v := 2) rd_d_X12_gainOf_58 (by decide) ?_
    refine kr_iload_n 3 rd_d_X12_gainOf_59 rfl ?_
    refine kr_iadd rd_d_X12_gainOf_60 ?_
    refine kr_iald G.1 (n := 277) rd_d_X12_gainOf_61 (hS.1 120 (.inr (.int, 277)) rfl) (hd_in (n := 2 + a.toInt.toNat) (ax_ixn (C := 2) (by decide) (by decide) ⟨ha.1, Int.lt_trans ha.2 (by decide)⟩) (by omega)) ?_
    rw [hd_clamp (n := 2 + a.toInt.toNat) (ax_ixn (C := 2) (by decide) (by decide) ⟨ha.1, Int.lt_trans ha.2 (by decide)⟩)]
    refine kr_bipush (v := 12) rd_d_X12_gainOf_62 (by decide) ?_
    refine kr_iload 0 rd_d_X12_gainOf_64 rfl ?_
    refine kr_imul rd_d_X12_gainOf_66 ?_
    refine kr_aload_n 2 rd_d_X12_gainOf_67 rfl ?_
    refine kr_getf G.1 (rd_FL rd_k_X12_gainOf_68).1 rd_d_X12_gainOf_68 (hS.1 118 (.inl 12) rfl) (v := .ref 120) (by unfold am_fa; rw [(rd_FL rd_k_X12_gainOf_68).2]; exact hS.2 118 6 120 rfl) ?_
    refine kr_bipush (v := 56) rd_d_X12_gainOf_71 (by decide) ?_
    refine kr_iald G.1 (n := 277) rd_d_X12_gainOf_73 (hS.1 120 (.inr (.int, 277)) rfl) (hd_in (n := 56) (by decide) (by decide)) ?_
    rw [hd_clamp (n := 56) (by decide)]
    refine kr_iload 1 rd_d_X12_gainOf_74 rfl ?_
    refine kr_iload 0 rd_d_X12_gainOf_76 rfl ?_
    refine kr_isub rd_d_X12_gainOf_78 ?_
    refine kr_imul rd_d_X12_gainOf_79 ?_
    refine kr_iadd rd_d_X12_gainOf_80 ?_
    refine kr_imul rd_d_X12_gainOf_81 ?_
    exact kr_ireturn rd_d_X12_gainOf_82 (ty := .int) rfl rfl ⟨by rw [ax_f_gnM, if_neg h2], rfl⟩
  · refine kr_aload_n 1 rd_d_X12_gainOf_14 rfl ?_
    refine kr_getf G.1 (rd_FL rd_k_X12_gainOf_15).1 rd_d_X12_gainOf_15 (hS.1 118 (.inl 12) rfl) (v := .ref 120) (by unfold am_fa; rw [(rd_FL rd_k_X12_gainOf_15).2]; exact hS.2 118 6 120 rfl) ?_
    refine kr_iconst (v := 2) rd_d_X12_gainOf_18 (by decide) ?_
    refine kr_iload_n 2 rd_d_X12_gainOf_19 rfl ?_
    refine kr_iadd rd_d_X12_gainOf_20 ?_
    refine kr_iald G.1 (n := 277) rd_d_X12_gainOf_21 (hS.1 120 (.inr (.int, 277)) rfl) (hd_in (n := 2 + a.toInt.toNat) (ax_ixn (C := 2) (by decide) (by decide) ⟨ha.1, Int.lt_trans ha.2 (by decide)⟩) (by omega)) ?_
    rw [hd_clamp (n := 2 + a.toInt.toNat) (ax_ixn (C := 2) (by decide) (by decide) ⟨ha.1, Int.lt_trans ha.2 (by decide)⟩)]
    refine kr_bipush (v := 12) rd_d_X12_gainOf_22 (by decide) ?_
    refine kr_aload_n 1 rd_d_X12_gainOf_24 rfl ?_
    refine kr_getf G.1 (rd_FL rd_k_X12_gainOf_25).1 rd_d_X12_gainOf_25 (hS.1 118 (.inl 12) rfl) (v := .ref 120) (by unfold am_fa; rw [(rd_FL rd_k_X12_gainOf_25).2]; exact hS.2 118 6 120 rfl) ?_
    refine kr_bipush (v := 57) rd_d_X12_gainOf_28 (by decide) ?_
    refine kr_iald G.1 (n := 277) rd_d_X12_gainOf_30 (hS.1 120 (.inr (.int, 277)) rfl) (hd_in (n := 57) (by decide) (by decide)) ?_
    rw [hd_clamp (n := 57) (by decide)]
    refine kr_isub rd_d_X12_gainOf_31 ?_
    refine kr_imul rd_d_X12_gainOf_32 ?_
    refine kr_iload 0 rd_d_X12_gainOf_33 rfl ?_
    refine kr_imul rd_d_X12_gainOf_35 ?_
    exact kr_ireturn rd_d_X12_gainOf_36 (ty := .int) rfl rfl ⟨by rw [ax_f_gnM, if_pos h2], rfl⟩
theorem gn_eq {m : Nat → Nat → Int32} {s : Nat → Int32} (h : pl_R m 4 s) (b : pl_B s) {a : Int32} (ha : ¬ ax_f_win s a = 0) (c t : Int32) : ax_f_gnX m a c t = ax_f_gnM s a c t := by
  have e0 : ax_f_pri m a = s (2 + a.toInt.toNat) := ax_rowE h b ha (r := 0) (by decide)
  have e1 : ax_f_tak m a = s (12 + a.toInt.toNat) := ax_rowE h b ha (r := 1) (by decide)
  have e2 : ax_f_shy m = s 57 := ax_setE h (a := 3) (j := 3) rfl (by decide)
  have e3 : ax_f_hon m = s 56 := ax_setE h (a := 2) (j := 2) rfl (by decide)
  rw [ax_f_gnX, ax_f_gnM, e0, e1, e2, e3, wf_eq h b, wf_eq h b]
def ax_f_bwX (m : Nat → Nat → Int32) (a t : Int32) : Int32 := if (ax_f_gnX m a 1 t) ≤ (ax_f_gnX m a 0 t) then 0 else 1
theorem ax_bwX (G : sx_G0 g L xs z9 hd_C ex_mt) {σ : am_S} (hS : ax_S σ) (a t : Int32) (hb : pl_Bm σ) : am_K g 4 tX9_betterWay.1 0 0 0 (lv_args 0 [.ref 4, .int a, .int t]) [] σ (ax_R (ax_f_bwX σ.2.1 a t) σ) := by
  refine kr_aload_n 0 rd_d_X9_betterWay_0 rfl ?_
  refine kr_iload_n 1 rd_d_X9_betterWay_1 rfl ?_
  refine kr_iconst (v := 1) rd_d_X9_betterWay_2 (by decide) ?_
  refine kr_iload_n 2 rd_d_X9_betterWay_3 rfl ?_
  refine rd_call G (T2 := tX9_gainOf) rfl rd_d_X9_betterWay_4 rd_k_X9_betterWay_4 rfl (hS.1 4 (.inl 9) rfl) (as := [.int a, .int 1, .int t]) (st := []) rfl (Nat.le_of_ble_eq_true rfl) rfl (Nat.le_of_ble_eq_true rfl) (d1 := 3) (by decide) (fun _ h => by cases h.1) (ax_gnX G hS a 1 t hb) ?_
  intro v1 σ1 ⟨hv1, hs1⟩
  cases hv1
  rw [hs1]
  refine kr_aload_n 0 rd_d_X9_betterWay_7 rfl ?_
  refine kr_iload_n 1 rd_d_X9_betterWay_8 rfl ?_
  refine kr_iconst (v := 0) rd_d_X9_betterWay_9 (by decide) ?_
  refine kr_iload_n 2 rd_d_X9_betterWay_10 rfl ?_
  refine rd_call G (T2 := tX9_gainOf) rfl rd_d_X9_betterWay_11 rd_k_X9_betterWay_11 rfl (hS.1 4 (.inl 9) rfl) (as := [.int a, .int 0, .int t]) (st := [.int (ax_f_gnX σ.2.1 a 1 t)]) rfl (Nat.le_of_ble_eq_true rfl) rfl (Nat.le_of_ble_eq_true rfl) (d1 := 3) (by decide) (fun _ h => by cases h.1) (ax_gnX G hS a 0 t hb) ?_
  intro v2 σ2 ⟨hv2, hs2⟩
  cases hv2
  rw [hs2]
  refine kr_icmp_le (tgt := 21) rd_d_X9_betterWay_14 rfl (fun h3 => ?_) (fun h3 => ?_)
  · refine kr_iconst (v := 0) rd_d_X9_betterWay_21 (by decide) ?_
    exact kr_ireturn rd_d_X9_betterWay_22 (ty := .int) rfl rfl ⟨by rw [ax_f_bwX, if_pos h3], rfl⟩
  · refine kr_iconst (v := 1) rd_d_X9_betterWay_17 (by decide) ?_
    refine kr_goto (tgt := 22) rd_d_X9_betterWay_18 rfl ?_
    exact kr_ireturn rd_d_X9_betterWay_22 (ty := .int) rfl rfl ⟨by rw [ax_f_bwX, if_neg h3], rfl⟩
def ax_f_bwM (s : Nat → Int32) (a t : Int32) : Int32 := if (ax_f_gnM (s) a 1 t) ≤ (ax_f_gnM (s) a 0 t) then 0 else 1
theorem ax_bwM (G : sx_G0 g L xs z9 hd_C ex_mt) {σ : am_S} (hS : ax_S σ) (a t : Int32) (hb : pl_B (σ.2.1 120)) (ha : 0 ≤ a.toInt ∧ a.toInt < 10) : am_K g 5 tX12_betterOf.1 0 0 0 (lv_args 0 [.ref 118, .int a, .int t]) [] σ (ax_R (ax_f_bwM (σ.2.1 120) a t) σ) := by
  refine kr_aload_n 0 rd_d_X12_betterOf_0 rfl ?_
  refine kr_iload_n 1 rd_d_X12_betterOf_1 rfl ?_
  refine kr_iconst (v := 1) rd_d_X12_betterOf_2 (by decide) ?_
  refine kr_iload_n 2 rd_d_X12_betterOf_3 rfl ?_
  refine rd_call G (T2 := tX12_gainOf) rfl rd_d_X12_betterOf_4 rd_k_X12_betterOf_4 rfl (hS.1 118 (.inl 12) rfl) (as := [.int a, .int 1, .int t]) (st := []) rfl (Nat.le_of_ble_eq_true rfl) rfl (Nat.le_of_ble_eq_true rfl) (d1 := 4) (by decide) (fun _ h => by cases h.1) (ax_gnM G hS a 1 t hb ha) ?_
  intro v1 σ1 ⟨hv1, hs1⟩
  cases hv1
  rw [hs1]
  refine kr_aload_n 0 rd_d_X12_betterOf_7 rfl ?_
  refine kr_iload_n 1 rd_d_X12_betterOf_8 rfl ?_
  refine kr_iconst (v := 0) rd_d_X12_betterOf_9 (by decide) ?_
  refine kr_iload_n 2 rd_d_X12_betterOf_10 rfl ?_
  refine rd_call G (T2 := tX12_gainOf) rfl rd_d_X12_betterOf_11 rd_k_X12_betterOf_11 rfl (hS.1 118 (.inl 12) rfl) (as := [.int a, .int 0, .int t]) (st := [.int (ax_f_gnM (σ.2.1 120) a 1 t)]) rfl (Nat.le_of_ble_eq_true rfl) rfl (Nat.le_of_ble_eq_true rfl) (d1 := 4) (by decide) (fun _ h => by cases h.1) (ax_gnM G hS a 0 t hb ha) ?_
  intro v2 σ2 ⟨hv2, hs2⟩
  cases hv2
  rw [hs2]
  refine kr_icmp_le (tgt := 21) rd_d_X12_betterOf_14 rfl (fun h3 => ?_) (fun h3 => ?_)
  · refine kr_iconst (v := 0) rd_d_X12_betterOf_21 (by decide) ?_
    exact kr_ireturn rd_d_X12_betterOf_22 (ty := .int) rfl rfl ⟨by rw [ax_f_bwM, if_pos h3], rfl⟩
  · refine kr_iconst (v := 1) rd_d_X12_betterOf_17 (by decide) ?_
    refine kr_goto (tgt := 22) rd_d_X12_betterOf_18 rfl ?_
    exact kr_ireturn rd_d_X12_betterOf_22 (ty := .int) rfl rfl ⟨by rw [ax_f_bwM, if_neg h3], rfl⟩
theorem bw_eq {m : Nat → Nat → Int32} {s : Nat → Int32} (h : pl_R m 4 s) (b : pl_B s) {a : Int32} (ha : ¬ ax_f_win s a = 0) (t : Int32) : ax_f_bwX m a t = ax_f_bwM s a t := by
  rw [ax_f_bwX, ax_f_bwM, gn_eq h b ha, gn_eq h b ha]
/-- what the numbers of the STATION keep to -/
def pl_B2 (s : Nat → Int32) : Prop := (∀ k, k < 10 → 0 ≤ (s (2 + k)).toInt ∧ (s (2 + k)).toInt ≤ 99) ∧ (0 ≤ (s 56).toInt ∧ (s 56).toInt ≤ 12) ∧ (0 ≤ (s 57).toInt ∧ (s 57).toInt ≤ 12) ∧ (0 ≤ (s 60).toInt ∧ (s 60).toInt ≤ 12) ∧ ∀ k, k < 6 → 0 ≤ (s (48 + k)).toInt ∧ (s (48 + k)).toInt ≤ 9
theorem pl_z2 : (∀ k, k < 10 → sx_atl (z9.1 120) (2 + k) = some (.ofNat 0, .ofNat 99, 409)) ∧ ∀ k, k < 6 → sx_atl (z9.1 120) (48 + k) = some (.ofNat 0, .ofNat 9, 414) := by decide +kernel
theorem pl_B2M {σe σ : am_S} {m : Nat} (hM : sx_M z9 hd_C σe m 0 σ) : pl_B2 (σ.2.1 120) := ⟨fun k hk => hM.2.2.1 120 (2 + k) _ _ _ (pl_z2.1 k hk), hM.2.2.1 120 56 _ _ _ rfl, hM.2.2.1 120 57 _ _ _ rfl, hM.2.2.1 120 60 _ _ _ rfl, fun k hk => hM.2.2.1 120 (48 + k) _ _ _ (pl_z2.2 k hk)⟩
theorem sd_b {s : Nat → Int32} (b : pl_B s) (b2 : pl_B2 s) (t : Int32) : ∀ (f j : Nat) (k z : Int32), k.toInt = (j : Int) → j + f = 6 → 0 ≤ z.toInt ∧ z.toInt ≤ 9 * (j : Int) → 0 ≤ (ax_l_sdM s t f k z).toInt ∧ (ax_l_sdM s t f k z).toInt ≤ 54 := by
  have hn := ax_many6 (s := s) b.2
  have z0 : ∀ x : Int32, x + 0 = x := fun x => Int32.add_zero x
  intro f
  induction f with
  | zero =>
    intro j k z ek hj hz
    rw [ax_l_sdM_zero, ax_s_sdM, if_pos (Int32.le_iff_toInt_le.mpr (by omega))]
    omega
  | succ f ih =>
    intro j k z ek hj hz
    rw [ax_l_sdM_succ, ax_s_sdM]
    split
    · omega
    · split
      · rw [z0]
        exact ih (j + 1) _ _ (ax_inc ek (by omega)) (by omega) (by omega)
      · have w : 0 ≤ (ax_f_wgtM s k k.toInt.toNat).toInt ∧ (ax_f_wgtM s k k.toInt.toNat).toInt ≤ 9 := by
          rw [ax_f_wgtM]
          split
          · decide
          · exact b2.2.2.2.2 k.toInt.toNat (by omega)
        have e := sx_addI z (ax_f_wgtM s k k.toInt.toNat) (by show (-2147483648 : Int) ≤ _; omega) (by show _ ≤ (2147483647 : Int); omega)
        exact ih (j + 1) _ _ (ax_inc ek (by omega)) (by omega) (by omega)
theorem sd_b6 {s : Nat → Int32} (b : pl_B s) (b2 : pl_B2 s) (t : Int32) : 0 ≤ (ax_f_sd s t).toInt ∧ (ax_f_sd s t).toInt ≤ 54 := by
  rw [ax_f_sd]
  exact sd_b b b2 t 6 0 0 0 rfl rfl (by decide)
theorem gn_b {s : Nat → Int32} (b : pl_B s) (b2 : pl_B2 s) {a : Int32} (ha : 0 ≤ a.toInt ∧ a.toInt < 10) (c t : Int32) : 0 ≤ (ax_f_gnM s a c t).toInt ∧ (ax_f_gnM s a c t).toInt ≤ 128304 := by
  have p := b2.1 a.toInt.toNat (by omega)
  have hh := b2.2.1
  have hs := b2.2.2.1
  have a1 := sd_b6 b b2 (t + 1)
  have a2 := sd_b6 b b2 (t + s (12 + a.toInt.toNat))
  have t12 : (12 : Int32).toInt = 12 := rfl
  rw [ax_f_gnM]
  generalize ax_f_sd s (t + 1) = u at *
  generalize ax_f_sd s (t + s (12 + a.toInt.toNat)) = v at *
  generalize s (2 + a.toInt.toNat) = q at *
  generalize s 56 = h at *
  generalize s 57 = y at *
  split
  · have e1 := sx_subI 12 y (by show (-2147483648 : Int) ≤ _; omega) (by show _ ≤ (2147483647 : Int); omega)
    have m1 : 0 ≤ q.toInt * (12 - y).toInt ∧ q.toInt * (12 - y).toInt ≤ 99 * 12 := ⟨Int.mul_nonneg p.1 (by omega), Int.mul_le_mul p.2 (by omega) (by omega) (by decide)⟩
    have e2 := sx_mulI q (12 - y) (by show (-2147483648 : Int) ≤ _; omega) (by show _ ≤ (2147483647 : Int); omega)
    have m2 : 0 ≤ (q * (12 - y)).toInt * u.toInt ∧ (q * (12 - y)).toInt * u.toInt ≤ 1188 * 54 := ⟨Int.mul_nonneg (by omega) a1.1, Int.mul_le_mul (by omega) a1.2 a1.1 (by decide)⟩
    have e3 := sx_mulI (q * (12 - y)) u (by show (-2147483648 : Int) ≤ _; omega) (by show _ ≤ (2147483647 : Int); omega)
    omega
  · have e1 := sx_mulI 12 v (by rw [t12]; show (-2147483648 : Int) ≤ _; omega) (by rw [t12]; show _ ≤ (2147483647 : Int); omega)
    rw [t12] at e1
    have e2 := sx_subI u v (by show (-2147483648 : Int) ≤ _; omega) (by show _ ≤ (2147483647 : Int); omega)
    have n1 : 0 ≤ h.toInt * u.toInt ∧ h.toInt * u.toInt ≤ 12 * u.toInt := ⟨Int.mul_nonneg hh.1 a1.1, Int.mul_le_mul_of_nonneg_right hh.2 a1.1⟩
    have n2 : 0 ≤ h.toInt * v.toInt ∧ h.toInt * v.toInt ≤ 12 * v.toInt := ⟨Int.mul_nonneg hh.1 a2.1, Int.mul_le_mul_of_nonneg_right hh.2 a2.1⟩
    have d1 : h.toInt * (u - v).toInt = h.toInt * u.toInt - h.toInt * v.toInt := by rw [e2, Int.mul_sub]
    have e3 := sx_mulI h (u - v) (by show (-2147483648 : Int) ≤ _; omega) (by show _ ≤ (2147483647 : Int); omega)
    have e4 := sx_addI (12 * v) (h * (u - v)) (by show (-2147483648 : Int) ≤ _; omega) (by show _ ≤ (2147483647 : Int); omega)
    have r1 : 0 ≤ (12 * v + h * (u - v)).toInt ∧ (12 * v + h * (u - v)).toInt ≤ 1296 := by omega
    have m2 : 0 ≤ q.toInt * (12 * v + h * (u - v)).toInt ∧ q.toInt * (12 * v + h * (u - v)).toInt ≤ 99 * 1296 := ⟨Int.mul_nonneg p.1 r1.1, Int.mul_le_mul p.2 r1.2 r1.1 (by decide)⟩
    have e5 := sx_mulI q (12 * v + h * (u - v)) (by show (-2147483648 : Int) ≤ _; omega) (by show _ ≤ (2147483647 : Int); omega)
    omega
/-- a fraction in least terms: its one number or the other -/
def ax_pt (a b c : Int32) : Int32 := if c = 0 then a / Int32.ofNat (Nat.gcd a.toInt.toNat b.toInt.toNat) else b / Int32.ofNat (Nat.gcd a.toInt.toNat b.toInt.toNat)
theorem ax_gq {q : Int32} {Q n : Nat} (e : q.toInt = (Q : Int)) (h : Q = n) : Int32.ofNat n = q := by
  have := Int32.toInt_lt q
  apply Int32.toInt_inj.mp
  rw [Int32.toInt_ofNat_of_lt (by omega), e, h]
theorem ax_half {Q R : Nat} (h0 : 0 < R) (h : R < Q) : 2 * (Q % R) < Q := by
  have h1 := Nat.mod_lt Q h0
  have h2 := Nat.div_add_mod Q R
  have h3 : 1 ≤ Q / R := (Nat.le_div_iff_mul_le h0).mpr (by omega)
  have h4 : R * 1 ≤ R * (Q / R) := Nat.mul_le_mul_left R h3
  omega
/-- so many steps are enough -/
def ax_enough (Q R f : Nat) : Prop := ∃ k, (R < 2 ^ k ∧ 2 * k ≤ f) ∨ (R < Q ∧ Q < 2 ^ k ∧ 2 * k - 1 ≤ f)
theorem ax_en0 {Q R : Nat} (h : ax_enough Q R 0) : R = 0 := by
  obtain ⟨k, ⟨h1, h2⟩ | ⟨h1, h2, h3⟩⟩ := h
  · have : k = 0 := by omega
    subst this
    omega
  · have : k = 0 := by omega
    subst this
    omega
theorem ax_enS {Q R f : Nat} (h : ax_enough Q R (f + 1)) (h0 : 0 < R) : ax_enough R (Q % R) f := by
  obtain ⟨k, ⟨h1, h2⟩ | ⟨h1, h2, h3⟩⟩ := h
  · exact ⟨k, Or.inr ⟨Nat.mod_lt Q h0, h1, by omega⟩⟩
  · cases k with
    | zero => omega
    | succ k =>
      have e : 2 ^ (k + 1) = 2 * 2 ^ k := by rw [Nat.pow_succ]; omega
      have := ax_half h0 h1
      exact ⟨k, Or.inl ⟨by omega, by omega⟩⟩
theorem ax_rem {q r : Int32} {Q R : Nat} (eq : q.toInt = (Q : Int)) (er : r.toInt = (R : Int)) (h0 : 0 < R) : (q - q / r * r).toInt = ((Q % R : Nat) : Int) := by
  rw [sx_remI (by omega) (by omega), eq, er, Int.natCast_emod]
theorem ax_ptL (G : sx_G0 g L xs z9 hd_C ex_mt) {σ : am_S} {A B a b c : Int32} {P : Nat} (hP : 0 < P) (hg : Nat.gcd A.toInt.toNat B.toInt.toNat = P) : ∀ (f j Q R : Nat) (st r q : Int32), st.toInt = (j : Int) → j + f = 64 → q.toInt = (Q : Int) → r.toInt = (R : Int) → Nat.gcd Q R = P → ax_enough Q R f → am_K g 1 tX11_part.1 0 0 23 [(7, .int st), (6, .int r), (5, .int q), (4, .int B), (3, .int A), (0, .int a), (1, .int b), (2, .int c)] [] σ (ax_R (ax_pt A B c) σ) := by
  have z0 : (0 : Int32).toInt = 0 := rfl
  have z64 : (64 : Int32).toInt = 64 := rfl
  intro f
  induction f with
  | zero =>
    intro j Q R st r q es hj eq er hG hE
    have hR := ax_en0 hE
    have eg : Q = Nat.gcd A.toInt.toNat B.toInt.toNat := by rw [hg, ← hG, hR, Nat.gcd_zero_right]
    have hQ : 0 < Q := by omega
    refine kr_iload 0 rd_d_X11_part_23 rfl ?_
    refine kr_bipush (v := 64) rd_d_X11_part_25 (by decide) ?_
    refine kr_icmp_ge (tgt := 56) rd_d_X11_part_27 rfl (fun _ => ?_) (fun h => absurd (Int32.le_iff_toInt_le.mpr (by omega)) h)
    refine kr_iload 2 rd_d_X11_part_56 rfl ?_
    refine kr_if_gt (tgt := 72) rd_d_X11_part_58 rfl (fun _ => ?_) (fun h => absurd (Int32.lt_iff_toInt_lt.mpr (by show (0 : Int) < _; omega)) h)
    refine kr_iload_n 7 rd_d_X11_part_72 rfl ?_
    refine kr_if_ne (tgt := 83) rd_d_X11_part_73 rfl (fun h => ?_) (fun h => ?_)
    · refine kr_iload 3 rd_d_X11_part_83 rfl ?_
      refine kr_iload 2 rd_d_X11_part_85 rfl ?_
      refine kr_idiv rd_d_X11_part_87 (fun h0 => by rw [h0] at eq; have z0 : (0 : Int32).toInt = 0 := rfl; omega) ?_
      exact kr_ireturn rd_d_X11_part_88 (ty := .int) rfl rfl ⟨by rw [ax_pt, if_neg h, ax_gq eq eg], rfl⟩
    · refine kr_iload_n 4 rd_d_X11_part_76 rfl ?_
      refine kr_iload 2 rd_d_X11_part_77 rfl ?_
      refine kr_idiv rd_d_X11_part_79 (fun h0 => by rw [h0] at eq; have z0 : (0 : Int32).toInt = 0 := rfl; omega) ?_
      refine kr_goto (tgt := 88) rd_d_X11_part_80 rfl ?_
      exact kr_ireturn rd_d_X11_part_88 (ty := .int) rfl rfl ⟨by rw [ax_pt, if_pos h, ax_gq eq eg], rfl⟩
  | succ f ih =>
    intro j Q R st r q es hj eq er hG hE
    refine kr_iload 0 rd_d_X11_part_23 rfl ?_
    refine kr_bipush (v := 64) rd_d_X11_part_25 (by decide) ?_
    refine kr_icmp_ge (tgt := 56) rd_d_X11_part_27 rfl (fun h => by have := Int32.le_iff_toInt_le.mp h; omega) (fun _ => ?_)
    refine kr_iload 1 rd_d_X11_part_30 rfl ?_
    refine kr_if_le (tgt := 56) rd_d_X11_part_32 rfl (fun h => ?_) (fun h => ?_)
    · have hR : R = 0 := by have := Int32.le_iff_toInt_le.mp h; omega
      have eg : Q = Nat.gcd A.toInt.toNat B.toInt.toNat := by rw [hg, ← hG, hR, Nat.gcd_zero_right]
      have hQ : 0 < Q := by omega
      refine kr_iload 2 rd_d_X11_part_56 rfl ?_
      refine kr_if_gt (tgt := 72) rd_d_X11_part_58 rfl (fun _ => ?_) (fun h => absurd (Int32.lt_iff_toInt_lt.mpr (by show (0 : Int) < _; omega)) h)
      refine kr_iload_n 7 rd_d_X11_part_72 rfl ?_
      refine kr_if_ne (tgt := 83) rd_d_X11_part_73 rfl (fun h => ?_) (fun h => ?_)
      · refine kr_iload 3 rd_d_X11_part_83 rfl ?_
        refine kr_iload 2 rd_d_X11_part_85 rfl ?_
        refine kr_idiv rd_d_X11_part_87 (fun h0 => by rw [h0] at eq; have z0 : (0 : Int32).toInt = 0 := rfl; omega) ?_
        exact kr_ireturn rd_d_X11_part_88 (ty := .int) rfl rfl ⟨by rw [ax_pt, if_neg h, ax_gq eq eg], rfl⟩
      · refine kr_iload_n 4 rd_d_X11_part_76 rfl ?_
        refine kr_iload 2 rd_d_X11_part_77 rfl ?_
        refine kr_idiv rd_d_X11_part_79 (fun h0 => by rw [h0] at eq; have z0 : (0 : Int32).toInt = 0 := rfl; omega) ?_
        refine kr_goto (tgt := 88) rd_d_X11_part_80 rfl ?_
        exact kr_ireturn rd_d_X11_part_88 (ty := .int) rfl rfl ⟨by rw [ax_pt, if_pos h, ax_gq eq eg], rfl⟩
    · have hR : 0 < R := by
        rcases Nat.eq_zero_or_pos R with e | e
        · exact absurd (Int32.le_iff_toInt_le.mpr (by omega)) h
        · exact e
      refine kr_iload 2 rd_d_X11_part_35 rfl ?_
      refine kr_iload 1 rd_d_X11_part_37 rfl ?_
      refine kr_irem rd_d_X11_part_39 (fun h0 => by rw [h0] at er; omega) ?_
      refine kr_istore (lv' := [(8, .int (q - q / r * r)), (7, .int st), (6, .int r), (5, .int q), (4, .int B), (3, .int A), (0, .int a), (1, .int b), (2, .int c)]) rd_d_X11_part_40 (by decide) rfl ?_
      refine kr_iload 2 rd_d_X11_part_42 rfl ?_
      refine kr_istore (lv' := [(5, .int r), (8, .int (q - q / r * r)), (7, .int st), (6, .int r), (4, .int B), (3, .int A), (0, .int a), (1, .int b), (2, .int c)]) rd_d_X11_part_44 (by decide) rfl ?_
      refine kr_iload 1 rd_d_X11_part_46 rfl ?_
      refine kr_istore (lv' := [(6, .int (q - q / r * r)), (5, .int r), (8, .int (q - q / r * r)), (7, .int st), (4, .int B), (3, .int A), (0, .int a), (1, .int b), (2, .int c)]) rd_d_X11_part_48 (by decide) rfl ?_
      refine kr_iinc (v := st + 1) (lv' := [(7, .int (st + 1)), (6, .int (q - q / r * r)), (5, .int r), (8, .int (q - q / r * r)), (4, .int B), (3, .int A), (0, .int a), (1, .int b), (2, .int c)]) 3 rd_d_X11_part_50 rfl rfl (by decide) rfl ?_
      refine kr_goto (tgt := 23) rd_d_X11_part_53 rfl ?_
      refine kr_sub (lv' := [(7, .int (st + 1)), (6, .int (q - q / r * r)), (5, .int r), (4, .int B), (3, .int A), (0, .int a), (1, .int b), (2, .int c)]) (by simp) ?_
      exact ih (j + 1) R (Q % R) (st + 1) (q - q / r * r) r (ax_inc es (by omega)) (by omega) er (ax_rem eq er hR) (by rw [← hG, Nat.gcd_comm, ← Nat.gcd_rec, Nat.gcd_comm]) (ax_enS hE hR)
theorem ax_ptX (G : sx_G0 g L xs z9 hd_C ex_mt) {σ : am_S} (a b c : Int32) (ha : 0 ≤ a.toInt) (hb : 1 ≤ b.toInt) : am_K g 1 tX11_part.1 0 0 0 (lv_args 0 [.int a, .int b, .int c]) [] σ (ax_R (ax_pt a b c) σ) := by
  have z0 : (0 : Int32).toInt = 0 := rfl
  have z1 : (1 : Int32).toInt = 1 := rfl
  have la := Int32.toInt_lt a
  refine kr_iload_n 0 rd_d_X11_part_0 rfl ?_
  refine kr_iconst (v := 0) rd_d_X11_part_1 (by decide) ?_
  refine kr_mmax G.1 (ex_mem_ok (show ex_mem 327784 (Cond.methodLink tX11_part.1.1.cls 362 Lib.Math.max.name) = true from rd_k_X11_part_2)) rd_d_X11_part_2 (by decide) (Nat.le_of_ble_eq_true rfl) ?_
  have e1 : (if a < 0 then (0 : Int32) else a) = a := if_neg (fun h => by have := Int32.lt_iff_toInt_lt.mp h; omega)
  rw [e1]
  refine kr_istore_n (lv' := [(3, .int a), (0, .int a), (1, .int b), (2, .int c)]) rd_d_X11_part_5 (by decide) rfl ?_
  refine kr_iload_n 2 rd_d_X11_part_6 rfl ?_
  refine kr_iconst (v := 1) rd_d_X11_part_7 (by decide) ?_
  refine kr_mmax G.1 (ex_mem_ok (show ex_mem 327784 (Cond.methodLink tX11_part.1.1.cls 362 Lib.Math.max.name) = true from rd_k_X11_part_8)) rd_d_X11_part_8 (by decide) (Nat.le_of_ble_eq_true rfl) ?_
  have e2 : (if b < 1 then (1 : Int32) else b) = b := if_neg (fun h => by have := Int32.lt_iff_toInt_lt.mp h; omega)
  rw [e2]
  refine kr_istore (lv' := [(4, .int b), (3, .int a), (0, .int a), (1, .int b), (2, .int c)]) rd_d_X11_part_11 (by decide) rfl ?_
  refine kr_iload 0 rd_d_X11_part_13 rfl ?_
  refine kr_istore (lv' := [(5, .int b), (4, .int b), (3, .int a), (0, .int a), (1, .int b), (2, .int c)]) rd_d_X11_part_15 (by decide) rfl ?_
  refine kr_iload_n 2 rd_d_X11_part_17 rfl ?_
  refine kr_istore (lv' := [(6, .int a), (5, .int b), (4, .int b), (3, .int a), (0, .int a), (1, .int b), (2, .int c)]) rd_d_X11_part_18 (by decide) rfl ?_
  refine kr_iconst (v := 0) rd_d_X11_part_20 (by decide) ?_
  refine kr_istore (lv' := [(7, .int 0), (6, .int a), (5, .int b), (4, .int b), (3, .int a), (0, .int a), (1, .int b), (2, .int c)]) rd_d_X11_part_21 (by decide) rfl ?_
  refine ax_ptL G (Nat.gcd_pos_of_pos_right _ (by omega)) rfl 64 0 b.toInt.toNat a.toInt.toNat 0 a b rfl rfl (by omega) (by omega) (Nat.gcd_comm _ _) ⟨31, Or.inl ⟨?_, by decide⟩⟩
  have : (2 : Nat) ^ 31 = 2147483648 := by decide
  omega
theorem ax_pmL (G : sx_G0 g L xs z9 hd_C ex_mt) {σ : am_S} {a b c : Int32} {P : Nat} (hP : 0 < P) (hg : Nat.gcd a.toInt.toNat b.toInt.toNat = P) : ∀ (n Y X : Nat) (x y : Int32), Y ≤ n → x.toInt = (X : Int) → y.toInt = (Y : Int) → Nat.gcd X Y = P → am_K g 1 tX12_part.1 0 0 5 [(4, .int y), (3, .int x), (0, .int a), (1, .int b), (2, .int c)] [] σ (ax_R (ax_pt a b c) σ) := by
  have z0 : (0 : Int32).toInt = 0 := rfl
  have out : ∀ (X : Nat) (x y : Int32), x.toInt = (X : Int) → X = P → am_K g 1 tX12_part.1 0 0 26 [(4, .int y), (3, .int x), (0, .int a), (1, .int b), (2, .int c)] [] σ (ax_R (ax_pt a b c) σ) := by
    intro X x y ex hX
    have eg : X = Nat.gcd a.toInt.toNat b.toInt.toNat := by rw [hg, hX]
    refine kr_iload_n 4 rd_d_X12_part_26 rfl ?_
    refine kr_if_ne (tgt := 34) rd_d_X12_part_27 rfl (fun h => ?_) (fun h => ?_)
    · refine kr_iload_n 3 rd_d_X12_part_34 rfl ?_
      refine kr_iload_n 1 rd_d_X12_part_35 rfl ?_
      refine kr_idiv rd_d_X12_part_36 (fun h0 => by rw [h0] at ex; omega) ?_
      exact kr_ireturn rd_d_X12_part_37 (ty := .int) rfl rfl ⟨by rw [ax_pt, if_neg h, ax_gq ex eg], rfl⟩
    · refine kr_iload_n 2 rd_d_X12_part_30 rfl ?_
      refine kr_goto (tgt := 35) rd_d_X12_part_31 rfl ?_
      refine kr_iload_n 1 rd_d_X12_part_35 rfl ?_
      refine kr_idiv rd_d_X12_part_36 (fun h0 => by rw [h0] at ex; omega) ?_
      exact kr_ireturn rd_d_X12_part_37 (ty := .int) rfl rfl ⟨by rw [ax_pt, if_pos h, ax_gq ex eg], rfl⟩
  intro n
  induction n with
  | zero =>
    intro Y X x y hY ex ey hG
    have hY0 : Y = 0 := by omega
    refine kr_iload 0 rd_d_X12_part_5 rfl ?_
    refine kr_if_eq (tgt := 26) rd_d_X12_part_7 rfl (fun _ => ?_) (fun h => absurd (Int32.toInt_inj.mp (by omega)) h)
    exact out X x y ex (by rw [← hG, hY0, Nat.gcd_zero_right])
  | succ n ih =>
    intro Y X x y hY ex ey hG
    refine kr_iload 0 rd_d_X12_part_5 rfl ?_
    refine kr_if_eq (tgt := 26) rd_d_X12_part_7 rfl (fun h => ?_) (fun h => ?_)
    · have hY0 : Y = 0 := by rw [h] at ey; omega
      exact out X x y ex (by rw [← hG, hY0, Nat.gcd_zero_right])
    · have hY0 : 0 < Y := by
        rcases Nat.eq_zero_or_pos Y with e | e
        · exact absurd (Int32.toInt_inj.mp (by omega)) h
        · exact e
      refine kr_iload_n 1 rd_d_X12_part_10 rfl ?_
      refine kr_iload 0 rd_d_X12_part_11 rfl ?_
      refine kr_irem rd_d_X12_part_13 h ?_
      refine kr_istore (lv' := [(5, .int (x - x / y * y)), (4, .int y), (3, .int x), (0, .int a), (1, .int b), (2, .int c)]) rd_d_X12_part_14 (by decide) rfl ?_
      refine kr_iload 1 rd_d_X12_part_16 rfl ?_
      refine kr_istore_n (lv' := [(3, .int y), (5, .int (x - x / y * y)), (4, .int y), (0, .int a), (1, .int b), (2, .int c)]) rd_d_X12_part_18 (by decide) rfl ?_
      refine kr_iload 1 rd_d_X12_part_19 rfl ?_
      refine kr_istore (lv' := [(4, .int (x - x / y * y)), (3, .int y), (5, .int (x - x / y * y)), (0, .int a), (1, .int b), (2, .int c)]) rd_d_X12_part_21 (by decide) rfl ?_
      refine kr_goto (tgt := 5) rd_d_X12_part_23 rfl ?_
      refine kr_sub (lv' := [(4, .int (x - x / y * y)), (3, .int y), (0, .int a), (1, .int b), (2, .int c)]) (by simp) ?_
      exact ih (X % Y) Y y (x - x / y * y) (by have := Nat.mod_lt X hY0; omega) ey (ax_rem ex ey hY0) (by rw [← hG, Nat.gcd_comm, ← Nat.gcd_rec, Nat.gcd_comm])
theorem ax_ptM (G : sx_G0 g L xs z9 hd_C ex_mt) {σ : am_S} (a b c : Int32) (ha : 0 ≤ a.toInt) (hb : 1 ≤ b.toInt) : am_K g 1 tX12_part.1 0 0 0 (lv_args 0 [.int a, .int b, .int c]) [] σ (ax_R (ax_pt a b c) σ) := by
  refine kr_iload_n 0 rd_d_X12_part_0 rfl ?_
  refine kr_istore_n (lv' := [(3, .int a), (0, .int a), (1, .int b), (2, .int c)]) rd_d_X12_part_1 (by decide) rfl ?_
  refine kr_iload_n 2 rd_d_X12_part_2 rfl ?_
  refine kr_istore (lv' := [(4, .int b), (3, .int a), (0, .int a), (1, .int b), (2, .int c)]) rd_d_X12_part_3 (by decide) rfl ?_
  exact ax_pmL G (Nat.gcd_pos_of_pos_right _ (by omega)) rfl b.toInt.toNat b.toInt.toNat a.toInt.toNat a b (Nat.le_refl _) (by omega) (by omega) rfl
def ax_f_uni (m : Nat → Nat → Int32) : Int32 := 12 * (ax_f_wf m 0)
theorem ax_uni (G : sx_G0 g L xs z9 hd_C ex_mt) {σ : am_S} (hS : ax_S σ) (hb : pl_Bm σ) : am_K g 2 tX9_unit.1 0 0 0 (lv_args 0 [.ref 4]) [] σ (ax_R (ax_f_uni σ.2.1) σ) := by
  refine kr_bipush (v := 12) rd_d_X9_unit_0 (by decide) ?_
  refine kr_aload_n 0 rd_d_X9_unit_2 rfl ?_
  refine kr_iconst (v := 0) rd_d_X9_unit_3 (by decide) ?_
  refine rd_call G (T2 := tX9_weightFrom) rfl rd_d_X9_unit_4 rd_k_X9_unit_4 rfl (hS.1 4 (.inl 9) rfl) (as := [.int 0]) (st := [.int 12]) rfl (Nat.le_of_ble_eq_true rfl) rfl (Nat.le_of_ble_eq_true rfl) (d1 := 1) (by decide) (fun _ h => by cases h.1) (ax_wf G hS 0 hb) ?_
  intro v1 σ1 ⟨hv1, hs1⟩
  cases hv1
  rw [hs1]
  refine kr_imul rd_d_X9_unit_7 ?_
  exact kr_ireturn rd_d_X9_unit_8 (ty := .int) rfl rfl ⟨rfl, rfl⟩
def ax_f_bel (s : Nat → Int32) : Int32 := 12 * (ax_f_sd (s) 0)
theorem ax_bel (G : sx_G0 g L xs z9 hd_C ex_mt) {σ : am_S} (hS : ax_S σ) (hb : pl_B (σ.2.1 120)) : am_K g 4 tX12_below.1 0 0 0 (lv_args 0 [.ref 118]) [] σ (ax_R (ax_f_bel (σ.2.1 120)) σ) := by
  refine kr_bipush (v := 12) rd_d_X12_below_0 (by decide) ?_
  refine kr_aload_n 0 rd_d_X12_below_2 rfl ?_
  refine kr_iconst (v := 0) rd_d_X12_below_3 (by decide) ?_
  refine rd_call G (T2 := tX12_standing) rfl rd_d_X12_below_4 rd_k_X12_below_4 rfl (hS.1 118 (.inl 12) rfl) (as := [.int 0]) (st := [.int 12]) rfl (Nat.le_of_ble_eq_true rfl) rfl (Nat.le_of_ble_eq_true rfl) (d1 := 3) (by decide) (fun _ h => by cases h.1) (ax_sd G hS 0 hb) ?_
  intro v1 σ1 ⟨hv1, hs1⟩
  cases hv1
  rw [hs1]
  refine kr_imul rd_d_X12_below_7 ?_
  exact kr_ireturn rd_d_X12_below_8 (ty := .int) rfl rfl ⟨rfl, rfl⟩
def ax_f_isp (a : Int32) : Int32 := if a = 0 then 1 else if a = 1 then 1 else 0
theorem ax_isp (G : sx_G0 g L xs z9 hd_C ex_mt) {σ : am_S} (hS : ax_S σ) (a : Int32) : am_K g 1 tX11_isPart.1 0 0 0 (lv_args 0 [.int a]) [] σ (ax_R (ax_f_isp a) σ) := by
  refine kr_iload_n 0 rd_d_X11_isPart_0 rfl ?_
  refine kr_if_eq (tgt := 9) rd_d_X11_isPart_1 rfl (fun h1 => ?_) (fun h1 => ?_)
  · refine kr_iconst (v := 1) rd_d_X11_isPart_9 (by decide) ?_
    refine kr_goto (tgt := 14) rd_d_X11_isPart_10 rfl ?_
    exact kr_ireturn rd_d_X11_isPart_14 (ty := .boolean) rfl rfl ⟨by rw [ax_f_isp, if_pos h1], rfl⟩
  · refine kr_iload_n 0 rd_d_X11_isPart_4 rfl ?_
    refine kr_iconst (v := 1) rd_d_X11_isPart_5 (by decide) ?_
    refine kr_icmp_ne (tgt := 13) rd_d_X11_isPart_6 rfl (fun h2 => ?_) (fun h2 => ?_)
    · refine kr_iconst (v := 0) rd_d_X11_isPart_13 (by decide) ?_
      exact kr_ireturn rd_d_X11_isPart_14 (ty := .boolean) rfl rfl ⟨by rw [ax_f_isp, if_neg h1, if_neg h2], rfl⟩
    · refine kr_iconst (v := 1) rd_d_X11_isPart_9 (by decide) ?_
      refine kr_goto (tgt := 14) rd_d_X11_isPart_10 rfl ?_
      exact kr_ireturn rd_d_X11_isPart_14 (ty := .boolean) rfl rfl ⟨by rw [ax_f_isp, if_neg h1, if_pos h2], rfl⟩
def pl_B3 (s : Nat → Int32) : Prop := 0 ≤ (s 42).toInt ∧ (¬ (s 1).toInt = 0 → 1 ≤ (s 48).toInt)
theorem pl_B3M {σe σ : am_S} {m : Nat} (hM : sx_M z9 hd_C σe m 0 σ) : pl_B3 (σ.2.1 120) := by
  refine ⟨(hM.2.2.1 120 42 _ _ _ rfl).1, fun h => ?_⟩
  have b := (pl_BM hM).1.2.1
  exact hM.2.2.2.2.2.1 (1, 120, 1, 48, 6) (List.Mem.tail _ (List.Mem.head _)) (sx_bit0 _) 0 (by decide) (by show ((0 : Nat) : Int) < (σ.2.1 120 1).toInt; omega)
theorem sd_p {s : Nat → Int32} (b : pl_B s) (b2 : pl_B2 s) (b3 : pl_B3 s) : 1 ≤ (ax_f_sd s 0).toInt := by
  have hn := ax_many6 (s := s) b.2
  have z0 : (0 : Int32).toInt = 0 := rfl
  have g : ∀ (f j : Nat) (k z : Int32), k.toInt = (j : Int) → j + f = 6 → 1 ≤ z.toInt ∧ z.toInt ≤ 9 * (j : Int) → 1 ≤ (ax_l_sdM s 0 f k z).toInt := by
    have y0 : ∀ x : Int32, x + 0 = x := fun x => Int32.add_zero x
    intro f
    induction f with
    | zero =>
      intro j k z ek hj hz
      rw [ax_l_sdM_zero, ax_s_sdM, if_pos (Int32.le_iff_toInt_le.mpr (by omega))]
      omega
    | succ f ih =>
      intro j k z ek hj hz
      rw [ax_l_sdM_succ, ax_s_sdM]
      split
      · omega
      · split
        · rw [y0]
          exact ih (j + 1) _ _ (ax_inc ek (by omega)) (by omega) (by omega)
        · have w : 0 ≤ (ax_f_wgtM s k k.toInt.toNat).toInt ∧ (ax_f_wgtM s k k.toInt.toNat).toInt ≤ 9 := by
            rw [ax_f_wgtM]
            split
            · decide
            · exact b2.2.2.2.2 k.toInt.toNat (by omega)
          have e := sx_addI z (ax_f_wgtM s k k.toInt.toNat) (by show (-2147483648 : Int) ≤ _; omega) (by show _ ≤ (2147483647 : Int); omega)
          exact ih (j + 1) _ _ (ax_inc ek (by omega)) (by omega) (by omega)
  have h1 : ¬ ax_f_secM s 0 (0 : Int32).toInt.toNat < 0 := by
    rw [ax_f_secM]
    split
    · decide
    · exact fun q => by have q' : (s 42).toInt < (0 : Int32).toInt := Int32.lt_iff_toInt_lt.mp q; have := b3.1; omega
  have h2 : 1 ≤ (ax_f_wgtM s 0 (0 : Int32).toInt.toNat).toInt ∧ (ax_f_wgtM s 0 (0 : Int32).toInt.toNat).toInt ≤ 9 := by
    rw [ax_f_wgtM]
    split
    · decide
    · rename_i q
      exact ⟨b3.2 (fun z => q (Int32.toInt_inj.mp (by omega))), (b2.2.2.2.2 0 (by decide)).2⟩
  have e := sx_addI 0 (ax_f_wgtM s 0 (0 : Int32).toInt.toNat) (by show (-2147483648 : Int) ≤ _; omega) (by show _ ≤ (2147483647 : Int); omega)
  rw [ax_f_sd, ax_l_sdM_succ, ax_s_sdM, if_neg (fun q => by have := Int32.le_iff_toInt_le.mp q; omega), if_neg h1]
  exact g 5 1 (0 + 1) _ rfl rfl (by omega)
theorem bel_b {s : Nat → Int32} (b : pl_B s) (b2 : pl_B2 s) (b3 : pl_B3 s) : 1 ≤ (ax_f_bel s).toInt := by
  have h := sd_p b b2 b3
  have h2 := sd_b6 b b2 0
  have t12 : (12 : Int32).toInt = 12 := rfl
  rw [ax_f_bel, sx_mulI 12 (ax_f_sd s 0) (by rw [t12]; show (-2147483648 : Int) ≤ _; omega) (by rw [t12]; show _ ≤ (2147483647 : Int); omega), t12]
  omega
theorem uni_eq {m : Nat → Nat → Int32} {s : Nat → Int32} (h : pl_R m 4 s) (b : pl_B s) : ax_f_uni m = ax_f_bel s := by
  rw [ax_f_uni, ax_f_bel, wf_eq h b]
theorem isp_eq (a : Int32) : ax_f_isp a = ax_f_isIn a 0 1 := by
  have z0 : (0 : Int32).toInt = 0 := rfl
  have z1 : (1 : Int32).toInt = 1 := rfl
  rw [ax_f_isp, ax_f_isIn]
  by_cases h0 : a = 0
  · subst h0; decide
  · rw [if_neg h0]
    by_cases h1 : a = 1
    · subst h1; decide
    · rw [if_neg h1]
      by_cases q1 : a < 0
      · rw [if_pos q1]
      · have q1' : ¬ a.toInt < 0 := fun q => q1 (Int32.lt_iff_toInt_lt.mpr (by omega))
        have n0 : ¬ a.toInt = 0 := fun q => h0 (Int32.toInt_inj.mp (by omega))
        have n1 : ¬ a.toInt = 1 := fun q => h1 (Int32.toInt_inj.mp (by omega))
        rw [if_neg q1, if_pos (Int32.lt_iff_toInt_lt.mpr (by omega))]
def ax_f_run (m : Nat → Nat → Int32) : Int32 := ax_ent (m 11) 8 6
theorem ax_run (G : sx_G0 g L xs z9 hd_C ex_mt) {σ : am_S} (hS : ax_S σ) : am_K g 2 tX9_runner.1 0 0 0 (lv_args 0 [.ref 4]) [] σ (ax_R (ax_f_run σ.2.1) σ) := by
  refine kr_aload_n 0 rd_d_X9_runner_0 rfl ?_
  refine kr_getf G.1 (rd_FL rd_k_X9_runner_1).1 rd_d_X9_runner_1 (hS.1 4 (.inl 9) rfl) (v := .ref 11) (by unfold am_fa; rw [(rd_FL rd_k_X9_runner_1).2]; exact hS.2 4 6 11 rfl) ?_
  refine kr_bipush (v := 6) rd_d_X9_runner_4 (by decide) ?_
  refine rd_callS G (T2 := tX11_entry) rfl rd_d_X9_runner_6 rd_k_X9_runner_6 rfl rfl (as := [.ref 11, .int 6]) (st := []) rfl (Nat.le_of_ble_eq_true rfl) rfl (Nat.le_of_ble_eq_true rfl) (d1 := 1) (by decide) (fun _ h => by cases h.1) (ax_entry G (hS.1 11 (.inr (.int, 8)) rfl) (by decide) 6) ?_
  intro v1 σ1 ⟨hv1, hs1⟩
  cases hv1
  rw [hs1]
  exact kr_ireturn rd_d_X9_runner_9 (ty := .int) rfl rfl ⟨rfl, rfl⟩
def ax_f_isc (t : Int32) : Int32 := if t < 0 then 0 else if 60 < t then 0 else 1
theorem ax_isc (G : sx_G0 g L xs z9 hd_C ex_mt) {σ : am_S} (hS : ax_S σ) (t : Int32) : am_K g 1 tX11_isSecond.1 0 0 0 (lv_args 0 [.int t]) [] σ (ax_R (ax_f_isc t) σ) := by
  refine kr_iload_n 0 rd_d_X11_isSecond_0 rfl ?_
  refine kr_if_lt (tgt := 14) rd_d_X11_isSecond_1 rfl (fun h1 => ?_) (fun h1 => ?_)
  · refine kr_iconst (v := 0) rd_d_X11_isSecond_14 (by decide) ?_
    exact kr_ireturn rd_d_X11_isSecond_15 (ty := .boolean) rfl rfl ⟨by rw [ax_f_isc, if_pos h1], rfl⟩
  · refine kr_iload_n 0 rd_d_X11_isSecond_4 rfl ?_
    refine kr_bipush (v := 60) rd_d_X11_isSecond_5 (by decide) ?_
    refine kr_icmp_gt (tgt := 14) rd_d_X11_isSecond_7 rfl (fun h2 => ?_) (fun h2 => ?_)
    · refine kr_iconst (v := 0) rd_d_X11_isSecond_14 (by decide) ?_
      exact kr_ireturn rd_d_X11_isSecond_15 (ty := .boolean) rfl rfl ⟨by rw [ax_f_isc, if_neg h1, if_pos h2], rfl⟩
    · refine kr_iconst (v := 1) rd_d_X11_isSecond_10 (by decide) ?_
      refine kr_goto (tgt := 15) rd_d_X11_isSecond_11 rfl ?_
      exact kr_ireturn rd_d_X11_isSecond_15 (ty := .boolean) rfl rfl ⟨by rw [ax_f_isc, if_neg h1, if_neg h2], rfl⟩
theorem ax_pos1 {x : Int32} (h : 0 < x) : 1 ≤ x.toInt := by
  have h' : (0 : Int32).toInt < x.toInt := Int32.lt_iff_toInt_lt.mp h
  have z0 : (0 : Int32).toInt = 0 := rfl
  omega
theorem ax_callV (G : sx_G0 g L xs z9 hd_C ex_mt) {mi2 : Nat} {T T2 : ex_T} (hT2 : ex_mt mi2 = some T2) {pc i p n bc bs ci p1 p2 p3 p4 : Nat} (hd : decode T.1.2.1 pc = .ok (.invokevirtual i, 3)) (hl : ex_lk ex_mt T pc (.invokevirtual i) [0, mi2, p] = true) (hm : T2.2.1 = [1, n, bc, bs, ci, p1, p2, p3, p4]) {o : Nat} {σ : am_S} (ho : σ.1[o]? = some (.inl ci)) {as st stk : List Value} (hn : as.length = n) (hlen : (lg_sl (.ref o :: as)).length ≤ T2.1.2.2.1) (hst : stk = as.reverse ++ .ref o :: st) (hroom : (st.map fun v => v.category).sum ≤ 8) {d d1 mc ms : Nat} (hd1 : d1 + 1 ≤ d) {lv : List (Nat × Value)} {post post1 : Option (Option Value) → am_S → Prop} (hnt : ∀ σ', ¬ post1 none σ') (k1 : am_K g d1 T2.1 0 0 0 (lv_args 0 (.ref o :: as)) [] σ post1) (kk : ∀ v σ', post1 (some v) σ' → am_K g d T.1 mc ms (pc + 3) lv (v.toList ++ st) σ' post) : am_K g d T.1 mc ms pc lv stk σ post := by
  unfold ex_lk at hl
  simp only [hT2] at hl
  rw [Bool.and_eq_true, decide_eq_true_eq] at hl
  obtain ⟨m1, m2, m3, U, N, m4⟩ := ex_mok_V (G.2.2.2.1 mi2 T2 hT2) hm
  have h := kr_callV (mc := mc) (ms := ms) (mc1 := 0) (ms1 := 0) G.1 m4 ho m1 m2 m3 (ex_mlk_ok hl.2) hd hn hlen hst hroom hd1 hnt k1 kk
  rw [Nat.zero_add, Nat.zero_add] at h
  exact h
theorem ax_callS (G : sx_G0 g L xs z9 hd_C ex_mt) {mi2 : Nat} {T T2 : ex_T} (hT2 : ex_mt mi2 = some T2) {pc i p n bc bs ci p1 p2 p3 p4 : Nat} (hd : decode T.1.2.1 pc = .ok (.invokestatic i, 3)) (hl : ex_lk ex_mt T pc (.invokestatic i) [0, mi2, p] = true) (hm : T2.2.1 = [0, n, bc, bs, ci, p1, p2, p3, p4]) (hh : T2.1.2.2.2.2 = []) {σ : am_S} {as st stk : List Value} (hn : as.length = n) (hlen : (lg_sl as).length ≤ T2.1.2.2.1) (hst : stk = as.reverse ++ st) (hroom : (st.map fun v => v.category).sum ≤ 8) {d d1 mc ms : Nat} (hd1 : d1 + 1 ≤ d) {lv : List (Nat × Value)} {post post1 : Option (Option Value) → am_S → Prop} (hnt : ∀ σ', ¬ post1 none σ') (k1 : am_K g d1 T2.1 0 0 0 (lv_args 0 as) [] σ post1) (kk : ∀ v σ', post1 (some v) σ' → am_K g d T.1 mc ms (pc + 3) lv (v.toList ++ st) σ' post) : am_K g d T.1 mc ms pc lv stk σ post := by
  unfold ex_lk at hl
  simp only [hT2, hh] at hl
  rw [Bool.and_eq_true, decide_eq_true_eq] at hl
  obtain ⟨m1, m2, m3⟩ := ex_mok_S (G.2.2.2.1 mi2 T2 hT2) hm
  have h := kr_callS (mc := mc) (ms := ms) (mc1 := 0) (ms1 := 0) G.1 (m1 hh) m3 (ex_mlk_ok hl.2) hd hn hlen hst hroom hd1 hnt k1 kk
  rw [Nat.zero_add, Nat.zero_add] at h
  exact h
theorem ax_throw (G : sx_G0 g L xs z9 hd_C ex_mt) {T : ex_T} {pc i is wd p1 p2 : Nat} (hd : decode T.1.2.1 pc = .ok (.new i, 3)) (hl : ex_lk ex_mt T pc (.new i) [1, is, wd, p1, p2] = true) {d mc ms : Nat} (hd6 : 6 ≤ d) {lv : List (Nat × Value)} {st : List Value} {σ : am_S} {post : Option (Option Value) → am_S → Prop} (hroom : (st.map fun v => v.category).sum ≤ 8) (hp : ∀ J : List am_sh, (∀ x ∈ J, x = .inl 99) → post none (σ.1 ++ J, σ.2)) : am_K g d T.1 (mc + 1) (ms + 6) pc lv st σ post := by
  unfold ex_lk at hl
  simp only at hl
  rw [Bool.and_eq_true, Bool.and_eq_true, Bool.and_eq_true, Bool.and_eq_true, Bool.and_eq_true, Bool.and_eq_true, decide_eq_true_eq, decide_eq_true_eq, decide_eq_true_eq] at hl
  obtain ⟨l1, l2, l3, l4, l5, l6, l7⟩ := hl
  have hs : ∃ tx, Cond.stringRef RX11 is tx ∈ lw_tbl := by
    split at l6
    · rename_i o j tx hq
      simp only [Bool.and_eq_true, decide_eq_true_eq] at l6
      obtain ⟨rfl, rfl⟩ := l6
      exact ⟨tx, lw_at_mem hq⟩
    · cases l6
  obtain ⟨tx, hs⟩ := hs
  split at l7
  · simp only [Bool.and_eq_true] at l7
    exact kr_throwS G.1 l1 l2 l3 hd (of_decide_eq_true l4) (of_decide_eq_true l7.1) (of_decide_eq_true l7.2.1) (of_decide_eq_true l7.2.2) (ex_mem_ok l5) hs hd6 hroom hp
  · simp only [Bool.and_eq_true] at l7
    exact kr_throwSW G.1 l1 l2 l3 hd (of_decide_eq_true l4) (of_decide_eq_true l7.1) (of_decide_eq_true l7.2.1) (of_decide_eq_true l7.2.2) (ex_mem_ok l5) hs hd6 hroom hp
/-- an answer, or a throw with junk -/
abbrev ax_T (v : Option Int32) (σ : am_S) : Option (Option Value) → am_S → Prop := fun r σ' => match v with
  | some y => r = some (some (.int y)) ∧ σ' = σ
  | none => r = none ∧ ∃ J : List am_sh, (∀ x ∈ J, x = .inl 99) ∧ σ' = (σ.1 ++ J, σ.2)
def ax_f_meX (m : Nat → Nat → Int32) (a b c : Int32) : Option Int32 := if (ax_f_has m a) = 0 then none else if (ax_f_isc b) = 0 then none else if (ax_f_isp c) = 0 then none else if 0 < (((ax_f_run m) * (ax_f_wf m (b + 1))) + ((12 - (ax_f_run m)) * ((ax_f_wf m (b + 1)) - (ax_f_wf m (b + (ax_f_tak m a)))))) then some (ax_pt ((ax_f_run m) * (ax_f_wf m (b + 1))) (((ax_f_run m) * (ax_f_wf m (b + 1))) + ((12 - (ax_f_run m)) * ((ax_f_wf m (b + 1)) - (ax_f_wf m (b + (ax_f_tak m a)))))) c) else none
theorem ax_meX (G : sx_G0 g L xs z9 hd_C ex_mt) {σ : am_S} (hS : ax_S σ) (a b c : Int32) (hb : pl_Bm σ) (h9 : 0 ≤ (ax_f_run σ.2.1 * ax_f_wf σ.2.1 (b + 1)).toInt) : am_K g 7 tX11_meant.1 1 6 0 (lv_args 0 [.ref 0, .int a, .int b, .int c]) [] σ (ax_T (ax_f_meX σ.2.1 a b c) σ) := by
  refine kr_aload_n 0 rd_d_X11_meant_0 rfl ?_
  refine kr_getf G.1 (rd_FL rd_k_X11_meant_1).1 rd_d_X11_meant_1 (hS.1 0 (.inl 11) rfl) (v := .ref 4) (by unfold am_fa; rw [(rd_FL rd_k_X11_meant_1).2]; exact hS.2 0 2 4 rfl) ?_
  refine kr_iload_n 1 rd_d_X11_meant_4 rfl ?_
  refine ax_callV G (T2 := tX9_has) rfl rd_d_X11_meant_5 rd_k_X11_meant_5 rfl (hS.1 4 (.inl 9) rfl) (as := [.int a]) (st := []) rfl (Nat.le_of_ble_eq_true rfl) rfl (Nat.le_of_ble_eq_true rfl) (d1 := 1) (by decide) (fun _ h => by cases h.1) (ax_has G hS a) ?_
  intro v1 σ1 ⟨hv1, hs1⟩
  cases hv1
  rw [hs1]
  refine kr_if_eq (tgt := 25) rd_d_X11_meant_8 rfl (fun h2 => ?_) (fun h2 => ?_)
  · refine ax_throw G (mc := 0) (ms := 0) rd_d_X11_meant_25 rd_k_X11_meant_25 (by decide) (Nat.le_of_ble_eq_true rfl) (fun J hJ => ?_)
    rw [ax_f_meX, if_pos h2]
    exact ⟨rfl, J, hJ, rfl⟩
  · refine kr_iload_n 2 rd_d_X11_meant_11 rfl ?_
    refine ax_callS G (T2 := tX11_isSecond) rfl rd_d_X11_meant_12 rd_k_X11_meant_12 rfl rfl (as := [.int b]) (st := []) rfl (Nat.le_of_ble_eq_true rfl) rfl (Nat.le_of_ble_eq_true rfl) (d1 := 1) (by decide) (fun _ h => by cases h.1) (ax_isc G hS b) ?_
    intro v3 σ3 ⟨hv3, hs3⟩
    cases hv3
    rw [hs3]
    refine kr_if_eq (tgt := 25) rd_d_X11_meant_15 rfl (fun h4 => ?_) (fun h4 => ?_)
    · refine ax_throw G (mc := 0) (ms := 0) rd_d_X11_meant_25 rd_k_X11_meant_25 (by decide) (Nat.le_of_ble_eq_true rfl) (fun J hJ => ?_)
      rw [ax_f_meX, if_neg h2, if_pos h4]
      exact ⟨rfl, J, hJ, rfl⟩
    · refine kr_iload_n 3 rd_d_X11_meant_18 rfl ?_
      refine ax_callS G (T2 := tX11_isPart) rfl rd_d_X11_meant_19 rd_k_X11_meant_19 rfl rfl (as := [.int c]) (st := []) rfl (Nat.le_of_ble_eq_true rfl) rfl (Nat.le_of_ble_eq_true rfl) (d1 := 1) (by decide) (fun _ h => by cases h.1) (ax_isp G hS c) ?_
      intro v5 σ5 ⟨hv5, hs5⟩
      cases hv5
      rw [hs5]
      refine kr_if_ne (tgt := 36) rd_d_X11_meant_22 rfl (fun h6 => ?_) (fun h6 => ?_)
      · refine kr_aload_n 0 rd_d_X11_meant_36 rfl ?_
        refine kr_getf G.1 (rd_FL rd_k_X11_meant_37).1 rd_d_X11_meant_37 (hS.1 0 (.inl 11) rfl) (v := .ref 4) (by unfold am_fa; rw [(rd_FL rd_k_X11_meant_37).2]; exact hS.2 0 2 4 rfl) ?_
        refine kr_iload_n 2 rd_d_X11_meant_40 rfl ?_
        refine kr_iconst (v := 1) rd_d_X11_meant_41 (by decide) ?_
        refine kr_iadd rd_d_X11_meant_42 ?_
        refine ax_callV G (T2 := tX9_weightFrom) rfl rd_d_X11_meant_43 rd_k_X11_meant_43 rfl (hS.1 4 (.inl 9) rfl) (as := [.int (b + 1)]) (st := []) rfl (Nat.le_of_ble_eq_true rfl) rfl (Nat.le_of_ble_eq_true rfl) (d1 := 1) (by decide) (fun _ h => by cases h.1) (ax_wf G hS (b + 1) hb) ?_
        intro v7 σ7 ⟨hv7, hs7⟩
        cases hv7
        rw [hs7]
        refine kr_istore (lv' := [(4, .int (ax_f_wf σ.2.1 (b + 1))), (0, .ref 0), (1, .int a), (2, .int b), (3, .int c)]) rd_d_X11_meant_46 (by decide) rfl ?_
        refine kr_iload 0 rd_d_X11_meant_48 rfl ?_
        refine kr_aload_n 1 rd_d_X11_meant_50 rfl ?_
        refine kr_getf G.1 (rd_FL rd_k_X11_meant_51).1 rd_d_X11_meant_51 (hS.1 0 (.inl 11) rfl) (v := .ref 4) (by unfold am_fa; rw [(rd_FL rd_k_X11_meant_51).2]; exact hS.2 0 2 4 rfl) ?_
        refine kr_iload_n 3 rd_d_X11_meant_54 rfl ?_
        refine kr_aload_n 1 rd_d_X11_meant_55 rfl ?_
        refine kr_getf G.1 (rd_FL rd_k_X11_meant_56).1 rd_d_X11_meant_56 (hS.1 0 (.inl 11) rfl) (v := .ref 4) (by unfold am_fa; rw [(rd_FL rd_k_X11_meant_56).2]; exact hS.2 0 2 4 rfl) ?_
        refine kr_iload_n 2 rd_d_X11_meant_59 rfl ?_
        refine ax_callV G (T2 := tX9_takesOf) rfl rd_d_X11_meant_60 rd_k_X11_meant_60 rfl (hS.1 4 (.inl 9) rfl) (as := [.int a]) (st := [.int b, .ref 4, .int (ax_f_wf σ.2.1 (b + 1))]) rfl (Nat.le_of_ble_eq_true rfl) rfl (Nat.le_of_ble_eq_true rfl) (d1 := 2) (by decide) (fun _ h => by cases h.1) (ax_tak G hS a) ?_
        intro v8 σ8 ⟨hv8, hs8⟩
        cases hv8
        rw [hs8]
        refine kr_iadd rd_d_X11_meant_63 ?_
        refine ax_callV G (T2 := tX9_weightFrom) rfl rd_d_X11_meant_64 rd_k_X11_meant_64 rfl (hS.1 4 (.inl 9) rfl) (as := [.int (b + (ax_f_tak σ.2.1 a))]) (st := [.int (ax_f_wf σ.2.1 (b + 1))]) rfl (Nat.le_of_ble_eq_true rfl) rfl (Nat.le_of_ble_eq_true rfl) (d1 := 1) (by decide) (fun _ h => by cases h.1) (ax_wf G hS (b + (ax_f_tak σ.2.1 a)) hb) ?_
        intro v9 σ9 ⟨hv9, hs9⟩
        cases hv9
        rw [hs9]
        refine kr_isub rd_d_X11_meant_67 ?_
        refine kr_istore (lv' := [(5, .int ((ax_f_wf σ.2.1 (b + 1)) - (ax_f_wf σ.2.1 (b + (ax_f_tak σ.2.1 a))))), (4, .int (ax_f_wf σ.2.1 (b + 1))), (0, .ref 0), (1, .int a), (2, .int b), (3, .int c)]) rd_d_X11_meant_68 (by decide) rfl ?_
        refine kr_aload_n 2 rd_d_X11_meant_70 rfl ?_
        refine kr_getf G.1 (rd_FL rd_k_X11_meant_71).1 rd_d_X11_meant_71 (hS.1 0 (.inl 11) rfl) (v := .ref 4) (by unfold am_fa; rw [(rd_FL rd_k_X11_meant_71).2]; exact hS.2 0 2 4 rfl) ?_
        refine ax_callV G (T2 := tX9_runner) rfl rd_d_X11_meant_74 rd_k_X11_meant_74 rfl (hS.1 4 (.inl 9) rfl) (as := []) (st := []) rfl (Nat.le_of_ble_eq_true rfl) rfl (Nat.le_of_ble_eq_true rfl) (d1 := 2) (by decide) (fun _ h => by cases h.1) (ax_run G hS) ?_
        intro v10 σ10 ⟨hv10, hs10⟩
        cases hv10
        rw [hs10]
        refine kr_iload 1 rd_d_X11_meant_77 rfl ?_
        refine kr_imul rd_d_X11_meant_79 ?_
        refine kr_istore (lv' := [(6, .int ((ax_f_run σ.2.1) * (ax_f_wf σ.2.1 (b + 1)))), (5, .int ((ax_f_wf σ.2.1 (b + 1)) - (ax_f_wf σ.2.1 (b + (ax_f_tak σ.2.1 a))))), (4, .int (ax_f_wf σ.2.1 (b + 1))), (0, .ref 0), (1, .int a), (2, .int b), (3, .int c)]) rd_d_X11_meant_80 (by decide) rfl ?_
        refine kr_iload 0 rd_d_X11_meant_82 rfl ?_
        refine kr_bipush (v := 12) rd_d_X11_meant_84 (by decide) ?_
        refine kr_aload_n 3 rd_d_X11_meant_86 rfl ?_
        refine kr_getf G.1 (rd_FL rd_k_X11_meant_87).1 rd_d_X11_meant_87 (hS.1 0 (.inl 11) rfl) (v := .ref 4) (by unfold am_fa; rw [(rd_FL rd_k_X11_meant_87).2]; exact hS.2 0 2 4 rfl) ?_
        refine ax_callV G (T2 := tX9_runner) rfl rd_d_X11_meant_90 rd_k_X11_meant_90 rfl (hS.1 4 (.inl 9) rfl) (as := []) (st := [.int 12, .int ((ax_f_run σ.2.1) * (ax_f_wf σ.2.1 (b + 1)))]) rfl (Nat.le_of_ble_eq_true rfl) rfl (Nat.le_of_ble_eq_true rfl) (d1 := 2) (by decide) (fun _ h => by cases h.1) (ax_run G hS) ?_
        intro v11 σ11 ⟨hv11, hs11⟩
        cases hv11
        rw [hs11]
        refine kr_isub rd_d_X11_meant_93 ?_
        refine kr_iload 1 rd_d_X11_meant_94 rfl ?_
        refine kr_imul rd_d_X11_meant_96 ?_
        refine kr_iadd rd_d_X11_meant_97 ?_
        refine kr_istore (lv' := [(7, .int (((ax_f_run σ.2.1) * (ax_f_wf σ.2.1 (b + 1))) + ((12 - (ax_f_run σ.2.1)) * ((ax_f_wf σ.2.1 (b + 1)) - (ax_f_wf σ.2.1 (b + (ax_f_tak σ.2.1 a))))))), (6, .int ((ax_f_run σ.2.1) * (ax_f_wf σ.2.1 (b + 1)))), (5, .int ((ax_f_wf σ.2.1 (b + 1)) - (ax_f_wf σ.2.1 (b + (ax_f_tak σ.2.1 a))))), (4, .int (ax_f_wf σ.2.1 (b + 1))), (0, .ref 0), (1, .int a), (2, .int b), (3, .int c)]) rd_d_X11_meant_98 (by decide) rfl ?_
        refine kr_iload 0 rd_d_X11_meant_100 rfl ?_
        refine kr_if_gt (tgt := 116) rd_d_X11_meant_102 rfl (fun h12 => ?_) (fun h12 => ?_)
        · refine kr_iload 1 rd_d_X11_meant_116 rfl ?_
          refine kr_iload 0 rd_d_X11_meant_118 rfl ?_
          refine kr_iload_n 7 rd_d_X11_meant_120 rfl ?_
          refine ax_callS G (T2 := tX11_part) rfl rd_d_X11_meant_121 rd_k_X11_meant_121 rfl rfl (as := [.int ((ax_f_run σ.2.1) * (ax_f_wf σ.2.1 (b + 1))), .int (((ax_f_run σ.2.1) * (ax_f_wf σ.2.1 (b + 1))) + ((12 - (ax_f_run σ.2.1)) * ((ax_f_wf σ.2.1 (b + 1)) - (ax_f_wf σ.2.1 (b + (ax_f_tak σ.2.1 a)))))), .int c]) (st := []) rfl (Nat.le_of_ble_eq_true rfl) rfl (Nat.le_of_ble_eq_true rfl) (d1 := 1) (by decide) (fun _ h => by cases h.1) (ax_ptX G ((ax_f_run σ.2.1) * (ax_f_wf σ.2.1 (b + 1))) (((ax_f_run σ.2.1) * (ax_f_wf σ.2.1 (b + 1))) + ((12 - (ax_f_run σ.2.1)) * ((ax_f_wf σ.2.1 (b + 1)) - (ax_f_wf σ.2.1 (b + (ax_f_tak σ.2.1 a)))))) c h9 (ax_pos1 h12)) ?_
          intro v13 σ13 ⟨hv13, hs13⟩
          cases hv13
          rw [hs13]
          refine kr_ireturn rd_d_X11_meant_124 (ty := .int) rfl rfl ?_
          rw [ax_f_meX, if_neg h2, if_neg h4, if_neg h6, if_pos h12]
          exact ⟨rfl, rfl⟩
        · refine ax_throw G (mc := 0) (ms := 0) rd_d_X11_meant_105 rd_k_X11_meant_105 (by decide) (Nat.le_of_ble_eq_true rfl) (fun J hJ => ?_)
          rw [ax_f_meX, if_neg h2, if_neg h4, if_neg h6, if_neg h12]
          exact ⟨rfl, J, hJ, rfl⟩
      · refine ax_throw G (mc := 0) (ms := 0) rd_d_X11_meant_25 rd_k_X11_meant_25 (by decide) (Nat.le_of_ble_eq_true rfl) (fun J hJ => ?_)
        rw [ax_f_meX, if_neg h2, if_neg h4, if_pos h6]
        exact ⟨rfl, J, hJ, rfl⟩
theorem ax_try (G : sx_G0 g L xs z9 hd_C ex_mt) {mi2 : Nat} {T T2 : ex_T} (hT2 : ex_mt mi2 = some T2) {pc i p li pck n bc bs ci p1 p2 p3 p4 : Nat} (hd : decode T.1.2.1 pc = .ok (.invokevirtual i, 3)) (hl : ex_lk ex_mt T pc (.invokevirtual i) [1, mi2, p, li, pck] = true) (hm : T2.2.1 = [1, n, bc, bs, ci, p1, p2, p3, p4]) {o : Nat} {σ : am_S} (ho : σ.1[o]? = some (.inl ci)) {as st stk : List Value} (hn : as.length = n) (hlen : (lg_sl (.ref o :: as)).length ≤ T2.1.2.2.1) (hst : stk = as.reverse ++ .ref o :: st) (hroom : (st.map fun v => v.category).sum ≤ 8) {d d1 mc ms mc1 ms1 : Nat} (hd1 : d1 + 1 ≤ d) {lv : List (Nat × Value)} {post post1 : Option (Option Value) → am_S → Prop} (k1 : am_K g d1 T2.1 mc1 ms1 0 (lv_args 0 (.ref o :: as)) [] σ post1) (kk : ∀ v σ', post1 (some v) σ' → am_K g d T.1 mc ms (pc + 3) lv (v.toList ++ st) σ' post) (kx : ∀ σ', post1 none σ' → post (some (some (.int 1))) σ') : am_K g d T.1 (mc1 + mc) (ms1 + ms) pc lv stk σ post := by
  unfold ex_lk at hl
  simp only [hT2] at hl
  split at hl
  · rename_i ta tb th tc hh
    simp only [Bool.and_eq_true, decide_eq_true_eq] at hl
    obtain ⟨l1, l2, l3, l4, l5, l6, l7, l8, l9, l10⟩ := hl
    obtain ⟨m1, m2, m3, U, N, m4⟩ := ex_mok_V (G.2.2.2.1 mi2 T2 hT2) hm
    exact kr_try G.1 m4 ho m1 m2 m3 (ex_mem_ok l10) hd hn hlen hst hroom hd1 l1 hh (by simpa [covers] using l2) l3 (ex_mem_ok l4) (of_decide_eq_true l5) (of_decide_eq_true l6) (of_decide_eq_true l7) l8 l9 k1 kk kx
  · cases hl
/-- the law's helper: 0 and the answer kept, or 1 -/
abbrev ax_TL (v : Option Int32) (σ : am_S) : Option (Option Value) → am_S → Prop := fun r σ' => match v with
  | some y => r = some (some (.int 0)) ∧ σ' = (σ.1, σ.2.1, am_up σ.2.2.1 138 0 y.toInt64, σ.2.2.2)
  | none => r = some (some (.int 1)) ∧ ∃ J : List am_sh, (∀ x ∈ J, x = .inl 99) ∧ σ' = (σ.1 ++ J, σ.2)
/-- what the reference tells of a throw -/
abbrev ax_TM (K : Nat) (v : Option Int32) : Option (Option Value) → am_S → Prop := fun r σ' => ∃ y : Int32, r = some (some (.int y)) ∧ ax_S σ' ∧ (match v with
  | some z => y = z ∧ σ'.2.1 118 K = 0
  | none => σ'.2.1 118 K = 1)
theorem ax_L_meX (G : sx_G0 g L xs z9 hd_C ex_mt) {σ : am_S} (hS : ax_S σ) (a b c : Int32) (hb : pl_Bm σ) (h9 : 0 ≤ (ax_f_run σ.2.1 * ax_f_wf σ.2.1 (b + 1)).toInt) : am_K g 9 tL_meant.1 1 6 0 (lv_args 0 [.ref 0, .int a, .int b, .int c, .ref 138]) [] σ (ax_TL (ax_f_meX σ.2.1 a b c) σ) := by
  have K := ax_meX G hS a b c hb h9
  generalize ax_f_meX σ.2.1 a b c = v at K ⊢
  refine kr_aload 4 rd_d_L_meant_0 rfl ?_
  refine kr_iconst (v := 0) rd_d_L_meant_2 (by decide) ?_
  refine kr_aload_n 0 rd_d_L_meant_3 rfl ?_
  refine kr_iload_n 1 rd_d_L_meant_4 rfl ?_
  refine kr_iload_n 2 rd_d_L_meant_5 rfl ?_
  refine kr_iload_n 3 rd_d_L_meant_6 rfl ?_
  refine ax_try G (T2 := tX11_meant) rfl rd_d_L_meant_7 rd_k_L_meant_7 rfl (hS.1 0 (.inl 11) rfl) (as := [.int a, .int b, .int c]) (st := [.int 0, .ref 138]) rfl (Nat.le_of_ble_eq_true rfl) rfl (Nat.le_of_ble_eq_true rfl) (mc := 0) (ms := 0) (mc1 := 1) (ms1 := 6) (d1 := 7) (by decide) K ?_ ?_
  · intro w σ' h
    cases v with
    | none => cases h.1
    | some y =>
      obtain ⟨h1, h2⟩ := h
      cases h1
      subst h2
      refine kr_i2l rd_d_L_meant_10 ?_
      refine kr_last G.1 (n := 1) rd_d_L_meant_11 (hS.1 138 (.inr (.long, 1)) rfl) (hd_in (n := 0) (by decide) (by decide)) ?_
      refine kr_goto (tgt := 19) rd_d_L_meant_12 rfl ?_
      refine kr_iconst (v := 0) rd_d_L_meant_19 (by decide) ?_
      exact kr_ireturn rd_d_L_meant_20 (ty := .int) rfl rfl ⟨rfl, rfl⟩
  · intro σ' h
    cases v with
    | none => exact ⟨rfl, h.2⟩
    | some y => cases h.1
theorem ax_tif0 (G : sx_G0 g L xs z9 hd_C ex_mt) {σ : am_S} (hS : ax_S σ) : am_K g 1 tX12_throwsIf.1 0 0 0 (lv_args 0 [.ref 118, .int 0]) [] σ (fun r σ' => r = some (some (.int 0)) ∧ ax_S σ' ∧ (∀ o k, o ≠ 118 → σ'.2.1 o k = σ.2.1 o k) ∧ σ'.2.1 118 0 = 0) := by
  have hty := (rd_FPi rd_k_X12_throwsIf_10).2
  refine kr_aload_n 0 rd_d_X12_throwsIf_0 rfl ?_
  refine kr_iload_n 1 rd_d_X12_throwsIf_1 rfl ?_
  refine kr_if_eq (tgt := 9) rd_d_X12_throwsIf_2 rfl (fun _ => ?_) (fun h => absurd rfl h)
  refine kr_iconst (v := 0) rd_d_X12_throwsIf_9 (by decide) ?_
  refine kr_putI G.1 (rd_FPi rd_k_X12_throwsIf_10).1 rd_d_X12_throwsIf_10 (hS.1 118 (.inl 12) rfl) (by rw [hty]; rfl) (by rw [hty]; rfl) (by rw [hty]; rfl) ?_
  refine kr_iload_n 1 rd_d_X12_throwsIf_13 rfl ?_
  exact kr_ireturn rd_d_X12_throwsIf_14 (ty := .boolean) rfl rfl ⟨rfl, hS, fun o k h => am_up_o _ _ h, show am_up σ.2.1 118 0 0 118 0 = 0 from am_up_s _ _ _ _⟩
theorem ax_tif1 (G : sx_G0 g L xs z9 hd_C ex_mt) {σ : am_S} (hS : ax_S σ) : am_K g 1 tX12_throwsIf.1 0 0 0 (lv_args 0 [.ref 118, .int 1]) [] σ (fun r σ' => r = some (some (.int 1)) ∧ ax_S σ' ∧ (∀ o k, o ≠ 118 → σ'.2.1 o k = σ.2.1 o k) ∧ σ'.2.1 118 0 = 1) := by
  have hty := (rd_FPi rd_k_X12_throwsIf_10).2
  refine kr_aload_n 0 rd_d_X12_throwsIf_0 rfl ?_
  refine kr_iload_n 1 rd_d_X12_throwsIf_1 rfl ?_
  refine kr_if_eq (tgt := 9) rd_d_X12_throwsIf_2 rfl (fun h => absurd h (by decide)) (fun _ => ?_)
  refine kr_iconst (v := 1) rd_d_X12_throwsIf_5 (by decide) ?_
  refine kr_goto (tgt := 10) rd_d_X12_throwsIf_6 rfl ?_
  refine kr_putI G.1 (rd_FPi rd_k_X12_throwsIf_10).1 rd_d_X12_throwsIf_10 (hS.1 118 (.inl 12) rfl) (by rw [hty]; rfl) (by rw [hty]; rfl) (by rw [hty]; rfl) ?_
  refine kr_iload_n 1 rd_d_X12_throwsIf_13 rfl ?_
  exact kr_ireturn rd_d_X12_throwsIf_14 (ty := .boolean) rfl rfl ⟨rfl, hS, fun o k h => am_up_o _ _ h, show am_up σ.2.1 118 0 1 118 0 = 1 from am_up_s _ _ _ _⟩
def pl_B4 (s : Nat → Int32) : Prop := ∀ k, k < 10 → 0 ≤ (s (12 + k)).toInt ∧ (s (12 + k)).toInt ≤ 9
theorem pl_z4 : ∀ k, k < 10 → sx_atl (z9.1 120) (12 + k) = some (.ofNat 0, .ofNat 9, 410) := by decide +kernel
theorem pl_B4M {σe σ : am_S} {m : Nat} (hM : sx_M z9 hd_C σe m 0 σ) : pl_B4 (σ.2.1 120) := fun k hk => hM.2.2.1 120 (12 + k) _ _ _ (pl_z4 k hk)
theorem sd_mono {s : Nat → Int32} (b : pl_B s) (b2 : pl_B2 s) {t u : Int32} (htu : t.toInt ≤ u.toInt) : ∀ (f j : Nat) (k z y : Int32), k.toInt = (j : Int) → j + f = 6 → 0 ≤ z.toInt ∧ z.toInt ≤ y.toInt ∧ y.toInt ≤ 9 * (j : Int) → (ax_l_sdM s u f k z).toInt ≤ (ax_l_sdM s t f k y).toInt := by
  have hn := ax_many6 (s := s) b.2
  have z0 : ∀ x : Int32, x + 0 = x := fun x => Int32.add_zero x
  intro f
  induction f with
  | zero =>
    intro j k z y ek hj hz
    rw [ax_l_sdM_zero, ax_l_sdM_zero, ax_s_sdM, ax_s_sdM, if_pos (Int32.le_iff_toInt_le.mpr (by omega)), if_pos (Int32.le_iff_toInt_le.mpr (by omega))]
    omega
  | succ f ih =>
    intro j k z y ek hj hz
    rw [ax_l_sdM_succ, ax_l_sdM_succ, ax_s_sdM, ax_s_sdM]
    have w : 0 ≤ (ax_f_wgtM s k k.toInt.toNat).toInt ∧ (k.toInt < (ax_f_many s).toInt → (ax_f_wgtM s k k.toInt.toNat).toInt ≤ 9) := by
      rw [ax_f_wgtM]
      split
      · exact ⟨by decide, fun _ => by decide⟩
      · exact ⟨(b2.2.2.2.2 k.toInt.toNat (by omega)).1, fun _ => (b2.2.2.2.2 k.toInt.toNat (by omega)).2⟩
    by_cases q : ax_f_many s ≤ k
    · rw [if_pos q, if_pos q]
      exact hz.2.1
    · have q' : ¬ (ax_f_many s).toInt ≤ k.toInt := fun e => q (Int32.le_iff_toInt_le.mpr e)
      have w9 := w.2 (by omega)
      have ez := sx_addI z (ax_f_wgtM s k k.toInt.toNat) (by show (-2147483648 : Int) ≤ _; omega) (by show _ ≤ (2147483647 : Int); omega)
      have ey := sx_addI y (ax_f_wgtM s k k.toInt.toNat) (by show (-2147483648 : Int) ≤ _; omega) (by show _ ≤ (2147483647 : Int); omega)
      rw [if_neg q, if_neg q, z0, z0]
      by_cases c : ax_f_secM s k k.toInt.toNat < t
      · have c2 : ax_f_secM s k k.toInt.toNat < u := Int32.lt_iff_toInt_lt.mpr (by have := Int32.lt_iff_toInt_lt.mp c; omega)
        rw [if_pos c, if_pos c2]
        exact ih (j + 1) _ _ _ (ax_inc ek (by omega)) (by omega) (by omega)
      · rw [if_neg c]
        by_cases c2 : ax_f_secM s k k.toInt.toNat < u
        · rw [if_pos c2]
          exact ih (j + 1) _ _ _ (ax_inc ek (by omega)) (by omega) (by omega)
        · rw [if_neg c2]
          exact ih (j + 1) _ _ _ (ax_inc ek (by omega)) (by omega) (by omega)
theorem sd_le {s : Nat → Int32} (b : pl_B s) (b2 : pl_B2 s) {t u : Int32} (htu : t.toInt ≤ u.toInt) : (ax_f_sd s u).toInt ≤ (ax_f_sd s t).toInt := by
  rw [ax_f_sd, ax_f_sd]
  exact sd_mono b b2 htu 6 0 0 0 0 rfl rfl (by decide)
theorem me_u {s : Nat → Int32} (b : pl_B s) (b2 : pl_B2 s) (t : Int32) : 0 ≤ (s 60 * ax_f_sd s t).toInt ∧ (s 60 * ax_f_sd s t).toInt ≤ 648 := by
  have a1 := sd_b6 b b2 t
  have r := b2.2.2.2.1
  have m : 0 ≤ (s 60).toInt * (ax_f_sd s t).toInt ∧ (s 60).toInt * (ax_f_sd s t).toInt ≤ 12 * 54 := ⟨Int.mul_nonneg r.1 a1.1, Int.mul_le_mul r.2 a1.2 a1.1 (by decide)⟩
  rw [sx_mulI (s 60) (ax_f_sd s t) (by show (-2147483648 : Int) ≤ _; omega) (by show _ ≤ (2147483647 : Int); omega)]
  omega
theorem me_a {s : Nat → Int32} (b : pl_B s) (b2 : pl_B2 s) (b4 : pl_B4 s) (bw : pl_W s) {a t : Int32} (ha : ¬ ax_f_win s a = 0) (ht : ¬ ax_f_isIn t 0 60 = 0) : 0 ≤ (s 60 * ax_f_sd s (t + 1) + (12 - s 60) * (ax_f_sd s (t + 1) - ax_f_sd s (t + s (12 + a.toInt.toNat)))).toInt := by
  have z0 : (0 : Int32).toInt = 0 := rfl
  have z1 : (1 : Int32).toInt = 1 := rfl
  have z60 : (60 : Int32).toInt = 60 := rfl
  have t12 : (12 : Int32).toInt = 12 := rfl
  obtain ⟨w1, w2, w3⟩ := ax_winI b ha
  have tk := bw.1 a.toInt.toNat (by omega)
  have tk9 := b4 a.toInt.toNat (by omega)
  have ht2 : 0 ≤ t.toInt ∧ t.toInt ≤ 60 := by
    rw [ax_f_isIn] at ht
    split at ht
    · exact absurd rfl ht
    · rename_i q1
      split at ht
      · exact absurd rfl ht
      · rename_i q2
        have g1 : ¬ t.toInt < 0 := fun q => q1 (Int32.lt_iff_toInt_lt.mpr (by omega))
        have g2 : ¬ 60 < t.toInt := fun q => q2 (Int32.lt_iff_toInt_lt.mpr (by omega))
        omega
  have e1 := sx_addI t 1 (by show (-2147483648 : Int) ≤ _; omega) (by show _ ≤ (2147483647 : Int); omega)
  have e2 := sx_addI t (s (12 + a.toInt.toNat)) (by show (-2147483648 : Int) ≤ _; omega) (by show _ ≤ (2147483647 : Int); omega)
  have le := sd_le b b2 (t := t + 1) (u := t + s (12 + a.toInt.toNat)) (by omega)
  have u := me_u b b2 (t + 1)
  have a1 := sd_b6 b b2 (t + 1)
  have a2 := sd_b6 b b2 (t + s (12 + a.toInt.toNat))
  have r := b2.2.2.2.1
  have e3 := sx_subI 12 (s 60) (by show (-2147483648 : Int) ≤ _; omega) (by show _ ≤ (2147483647 : Int); omega)
  have e4 := sx_subI (ax_f_sd s (t + 1)) (ax_f_sd s (t + s (12 + a.toInt.toNat))) (by show (-2147483648 : Int) ≤ _; omega) (by show _ ≤ (2147483647 : Int); omega)
  have m : 0 ≤ (12 - s 60).toInt * (ax_f_sd s (t + 1) - ax_f_sd s (t + s (12 + a.toInt.toNat))).toInt ∧ (12 - s 60).toInt * (ax_f_sd s (t + 1) - ax_f_sd s (t + s (12 + a.toInt.toNat))).toInt ≤ 12 * 54 := ⟨Int.mul_nonneg (by omega) (by omega), Int.mul_le_mul (by omega) (by omega) (by omega) (by decide)⟩
  have e5 := sx_mulI (12 - s 60) (ax_f_sd s (t + 1) - ax_f_sd s (t + s (12 + a.toInt.toNat))) (by show (-2147483648 : Int) ≤ _; omega) (by show _ ≤ (2147483647 : Int); omega)
  rw [sx_addI _ _ (by show (-2147483648 : Int) ≤ _; omega) (by show _ ≤ (2147483647 : Int); omega)]
  omega
theorem ax_nz1 {x : Int32} (h : ¬ x = 0) (h0 : 0 ≤ x.toInt) : 1 ≤ x.toInt := by
  have z0 : (0 : Int32).toInt = 0 := rfl
  have : ¬ x.toInt = 0 := fun e => h (Int32.toInt_inj.mp (by omega))
  omega
def ax_f_meM (s : Nat → Int32) (a b c : Int32) : Option Int32 := if (ax_f_win (s) a) = 0 then none else if (ax_f_isIn b 0 60) = 0 then none else if (ax_f_isIn c 0 1) = 0 then none else if (((s 60) * (ax_f_sd (s) (b + 1))) + ((12 - (s 60)) * ((ax_f_sd (s) (b + 1)) - (ax_f_sd (s) (b + (s (12 + a.toInt.toNat))))))) = 0 then none else some (ax_pt ((s 60) * (ax_f_sd (s) (b + 1))) (((s 60) * (ax_f_sd (s) (b + 1))) + ((12 - (s 60)) * ((ax_f_sd (s) (b + 1)) - (ax_f_sd (s) (b + (s (12 + a.toInt.toNat))))))) c)
theorem ax_meM (G : sx_G0 g L xs z9 hd_C ex_mt) {σ : am_S} (hS : ax_S σ) (a b c : Int32) (hb : pl_B (σ.2.1 120)) (hb2 : pl_B2 (σ.2.1 120)) (hb4 : pl_B4 (σ.2.1 120)) (hbw : pl_W (σ.2.1 120)) : am_K g 5 tX12_meant.1 0 0 0 (lv_args 0 [.ref 118, .int a, .int b, .int c]) [] σ (ax_TM 0 (ax_f_meM (σ.2.1 120) a b c)) := by
  refine kr_aload_n 0 rd_d_X12_meant_0 rfl ?_
  refine kr_aload_n 0 rd_d_X12_meant_1 rfl ?_
  refine kr_iload_n 1 rd_d_X12_meant_2 rfl ?_
  refine rd_call G (T2 := tX12_isWindow) rfl rd_d_X12_meant_3 rd_k_X12_meant_3 rfl (hS.1 118 (.inl 12) rfl) (as := [.int a]) (st := [.ref 118]) rfl (Nat.le_of_ble_eq_true rfl) rfl (Nat.le_of_ble_eq_true rfl) (d1 := 2) (by decide) (fun _ h => by cases h.1) (ax_win G hS a) ?_
  intro v1 σ1 ⟨hv1, hs1⟩
  cases hv1
  rw [hs1]
  refine kr_if_eq (tgt := 28) rd_d_X12_meant_6 rfl (fun h2 => ?_) (fun h2 => ?_)
  · refine kr_iconst (v := 1) rd_d_X12_meant_28 (by decide) ?_
    refine kr_goto (tgt := 33) rd_d_X12_meant_29 rfl ?_
    refine rd_call G (T2 := tX12_throwsIf) rfl rd_d_X12_meant_33 rd_k_X12_meant_33 rfl (hS.1 118 (.inl 12) rfl) (as := [.int 1]) (st := []) rfl (Nat.le_of_ble_eq_true rfl) rfl (Nat.le_of_ble_eq_true rfl) (d1 := 1) (by decide) (fun _ h => by cases h.1) (ax_tif1 G hS) ?_
    intro vv1 τ1_0 ⟨hvv1, hT1, hm1, hK1⟩
    cases hvv1
    have ee1 : τ1_0.2.1 120 = σ.2.1 120 := funext fun k => hm1 120 k (by decide)
    have hb : pl_B (τ1_0.2.1 120) := by rw [ee1]; exact hb
    have hb2 : pl_B2 (τ1_0.2.1 120) := by rw [ee1]; exact hb2
    have hb4 : pl_B4 (τ1_0.2.1 120) := by rw [ee1]; exact hb4
    have hbw : pl_W (τ1_0.2.1 120) := by rw [ee1]; exact hbw
    rw [← ee1] at h2
    refine kr_if_eq (tgt := 41) rd_d_X12_meant_36 rfl (fun h => absurd h (by decide)) (fun _ => ?_)
    refine kr_iconst (v := 0) rd_d_X12_meant_39 (by decide) ?_
    refine kr_ireturn rd_d_X12_meant_40 (ty := .int) rfl rfl ⟨_, rfl, hT1, ?_⟩
    rw [← ee1, ax_f_meM, if_pos h2]
    exact hK1
  · refine kr_iload_n 2 rd_d_X12_meant_9 rfl ?_
    refine kr_iconst (v := 0) rd_d_X12_meant_10 (by decide) ?_
    refine kr_bipush (v := 60) rd_d_X12_meant_11 (by decide) ?_
    refine rd_callS G (T2 := tX12_isIn) rfl rd_d_X12_meant_13 rd_k_X12_meant_13 rfl rfl (as := [.int b, .int 0, .int 60]) (st := [.ref 118]) rfl (Nat.le_of_ble_eq_true rfl) rfl (Nat.le_of_ble_eq_true rfl) (d1 := 1) (by decide) (fun _ h => by cases h.1) (ax_isIn G hS b 0 60) ?_
    intro v3 σ3 ⟨hv3, hs3⟩
    cases hv3
    rw [hs3]
    refine kr_if_eq (tgt := 28) rd_d_X12_meant_16 rfl (fun h4 => ?_) (fun h4 => ?_)
    · refine kr_iconst (v := 1) rd_d_X12_meant_28 (by decide) ?_
      refine kr_goto (tgt := 33) rd_d_X12_meant_29 rfl ?_
      refine rd_call G (T2 := tX12_throwsIf) rfl rd_d_X12_meant_33 rd_k_X12_meant_33 rfl (hS.1 118 (.inl 12) rfl) (as := [.int 1]) (st := []) rfl (Nat.le_of_ble_eq_true rfl) rfl (Nat.le_of_ble_eq_true rfl) (d1 := 1) (by decide) (fun _ h => by cases h.1) (ax_tif1 G hS) ?_
      intro vv2 τ1_1 ⟨hvv2, hT2, hm2, hK2⟩
      cases hvv2
      have ee2 : τ1_1.2.1 120 = σ.2.1 120 := funext fun k => hm2 120 k (by decide)
      have hb : pl_B (τ1_1.2.1 120) := by rw [ee2]; exact hb
      have hb2 : pl_B2 (τ1_1.2.1 120) := by rw [ee2]; exact hb2
      have hb4 : pl_B4 (τ1_1.2.1 120) := by rw [ee2]; exact hb4
      have hbw : pl_W (τ1_1.2.1 120) := by rw [ee2]; exact hbw
      rw [← ee2] at h2
      refine kr_if_eq (tgt := 41) rd_d_X12_meant_36 rfl (fun h => absurd h (by decide)) (fun _ => ?_)
      refine kr_iconst (v := 0) rd_d_X12_meant_39 (by decide) ?_
      refine kr_ireturn rd_d_X12_meant_40 (ty := .int) rfl rfl ⟨_, rfl, hT2, ?_⟩
      rw [← ee2, ax_f_meM, if_neg h2, if_pos h4]
      exact hK2
    · refine kr_iload_n 3 rd_d_X12_meant_19 rfl ?_
      refine kr_iconst (v := 0) rd_d_X12_meant_20 (by decide) ?_
      refine kr_iconst (v := 1) rd_d_X12_meant_21 (by decide) ?_
      refine rd_callS G (T2 := tX12_isIn) rfl rd_d_X12_meant_22 rd_k_X12_meant_22 rfl rfl (as := [.int c, .int 0, .int 1]) (st := [.ref 118]) rfl (Nat.le_of_ble_eq_true rfl) rfl (Nat.le_of_ble_eq_true rfl) (d1 := 1) (by decide) (fun _ h => by cases h.1) (ax_isIn G hS c 0 1) ?_
      intro v5 σ5 ⟨hv5, hs5⟩
      cases hv5
      rw [hs5]
      refine kr_if_ne (tgt := 32) rd_d_X12_meant_25 rfl (fun h6 => ?_) (fun h6 => ?_)
      · refine kr_iconst (v := 0) rd_d_X12_meant_32 (by decide) ?_
        refine rd_call G (T2 := tX12_throwsIf) rfl rd_d_X12_meant_33 rd_k_X12_meant_33 rfl (hS.1 118 (.inl 12) rfl) (as := [.int 0]) (st := []) rfl (Nat.le_of_ble_eq_true rfl) rfl (Nat.le_of_ble_eq_true rfl) (d1 := 1) (by decide) (fun _ h => by cases h.1) (ax_tif0 G hS) ?_
        intro vv3 τ1_2 ⟨hvv3, hT3, hm3, hK3⟩
        cases hvv3
        have ee3 : τ1_2.2.1 120 = σ.2.1 120 := funext fun k => hm3 120 k (by decide)
        have hb : pl_B (τ1_2.2.1 120) := by rw [ee3]; exact hb
        have hb2 : pl_B2 (τ1_2.2.1 120) := by rw [ee3]; exact hb2
        have hb4 : pl_B4 (τ1_2.2.1 120) := by rw [ee3]; exact hb4
        have hbw : pl_W (τ1_2.2.1 120) := by rw [ee3]; exact hbw
        rw [← ee3] at h2
        refine kr_if_eq (tgt := 41) rd_d_X12_meant_36 rfl (fun _ => ?_) (fun h => absurd rfl h)
        refine kr_aload_n 0 rd_d_X12_meant_41 rfl ?_
        refine kr_iload_n 2 rd_d_X12_meant_42 rfl ?_
        refine kr_iconst (v := 1) rd_d_X12_meant_43 (by decide) ?_
        refine kr_iadd rd_d_X12_meant_44 ?_
        refine rd_call G (T2 := tX12_standing) rfl rd_d_X12_meant_45 rd_k_X12_meant_45 rfl (hT3.1 118 (.inl 12) rfl) (as := [.int (b + 1)]) (st := []) rfl (Nat.le_of_ble_eq_true rfl) rfl (Nat.le_of_ble_eq_true rfl) (d1 := 3) (by decide) (fun _ h => by cases h.1) (ax_sd G hT3 (b + 1) hb) ?_
        intro v22 σ22 ⟨hv22, hs22⟩
        cases hv22
        rw [hs22]
        refine kr_istore (lv' := [(4, .int (ax_f_sd (τ1_2.2.1 120) (b + 1))), (0, .ref 118), (1, .int a), (2, .int b), (3, .int c)]) rd_d_X12_meant_48 (by decide) rfl ?_
        refine kr_aload_n 1 rd_d_X12_meant_50 rfl ?_
        refine kr_getf G.1 (rd_FL rd_k_X12_meant_51).1 rd_d_X12_meant_51 (hT3.1 118 (.inl 12) rfl) (v := .ref 120) (by unfold am_fa; rw [(rd_FL rd_k_X12_meant_51).2]; exact hT3.2 118 6 120 rfl) ?_
        refine kr_bipush (v := 60) rd_d_X12_meant_54 (by decide) ?_
        refine kr_iald G.1 (n := 277) rd_d_X12_meant_56 (hT3.1 120 (.inr (.int, 277)) rfl) (hd_in (n := 60) (by decide) (by decide)) ?_
        rw [hd_clamp (n := 60) (by decide)]
        refine kr_iload 0 rd_d_X12_meant_57 rfl ?_
        refine kr_imul rd_d_X12_meant_59 ?_
        refine kr_istore (lv' := [(5, .int ((τ1_2.2.1 120 60) * (ax_f_sd (τ1_2.2.1 120) (b + 1)))), (4, .int (ax_f_sd (τ1_2.2.1 120) (b + 1))), (0, .ref 118), (1, .int a), (2, .int b), (3, .int c)]) rd_d_X12_meant_60 (by decide) rfl ?_
        refine kr_iload 0 rd_d_X12_meant_62 rfl ?_
        refine kr_bipush (v := 12) rd_d_X12_meant_64 (by decide) ?_
        refine kr_aload_n 2 rd_d_X12_meant_66 rfl ?_
        refine kr_getf G.1 (rd_FL rd_k_X12_meant_67).1 rd_d_X12_meant_67 (hT3.1 118 (.inl 12) rfl) (v := .ref 120) (by unfold am_fa; rw [(rd_FL rd_k_X12_meant_67).2]; exact hT3.2 118 6 120 rfl) ?_
        refine kr_bipush (v := 60) rd_d_X12_meant_70 (by decide) ?_
        refine kr_iald G.1 (n := 277) rd_d_X12_meant_72 (hT3.1 120 (.inr (.int, 277)) rfl) (hd_in (n := 60) (by decide) (by decide)) ?_
        rw [hd_clamp (n := 60) (by decide)]
        refine kr_isub rd_d_X12_meant_73 ?_
        refine kr_iload 1 rd_d_X12_meant_74 rfl ?_
        refine kr_aload_n 2 rd_d_X12_meant_76 rfl ?_
        refine kr_iload_n 4 rd_d_X12_meant_77 rfl ?_
        refine kr_aload_n 2 rd_d_X12_meant_78 rfl ?_
        refine kr_getf G.1 (rd_FL rd_k_X12_meant_79).1 rd_d_X12_meant_79 (hT3.1 118 (.inl 12) rfl) (v := .ref 120) (by unfold am_fa; rw [(rd_FL rd_k_X12_meant_79).2]; exact hT3.2 118 6 120 rfl) ?_
        refine kr_bipush (v := 12) rd_d_X12_meant_82 (by decide) ?_
        refine kr_iload_n 3 rd_d_X12_meant_84 rfl ?_
        refine kr_iadd rd_d_X12_meant_85 ?_
        refine kr_iald G.1 (n := 277) rd_d_X12_meant_86 (hT3.1 120 (.inr (.int, 277)) rfl) (hd_in (n := 12 + a.toInt.toNat) (ax_ixn (C := 12) (by decide) (by decide) ⟨(ax_win10 hb h2).1, Int.lt_trans (ax_win10 hb h2).2 (by decide)⟩) (by have := ax_win10 hb h2; omega)) ?_
        rw [hd_clamp (n := 12 + a.toInt.toNat) (ax_ixn (C := 12) (by decide) (by decide) ⟨(ax_win10 hb h2).1, Int.lt_trans (ax_win10 hb h2).2 (by decide)⟩)]
        refine kr_iadd rd_d_X12_meant_87 ?_
        refine rd_call G (T2 := tX12_standing) rfl rd_d_X12_meant_88 rd_k_X12_meant_88 rfl (hT3.1 118 (.inl 12) rfl) (as := [.int (b + (τ1_2.2.1 120 (12 + a.toInt.toNat)))]) (st := [.int (ax_f_sd (τ1_2.2.1 120) (b + 1)), .int (12 - (τ1_2.2.1 120 60)), .int ((τ1_2.2.1 120 60) * (ax_f_sd (τ1_2.2.1 120) (b + 1)))]) rfl (Nat.le_of_ble_eq_true rfl) rfl (Nat.le_of_ble_eq_true rfl) (d1 := 3) (by decide) (fun _ h => by cases h.1) (ax_sd G hT3 (b + (τ1_2.2.1 120 (12 + a.toInt.toNat))) hb) ?_
        intro v23 σ23 ⟨hv23, hs23⟩
        cases hv23
        rw [hs23]
        refine kr_isub rd_d_X12_meant_91 ?_
        refine kr_imul rd_d_X12_meant_92 ?_
        refine kr_iadd rd_d_X12_meant_93 ?_
        refine kr_istore (lv' := [(6, .int (((τ1_2.2.1 120 60) * (ax_f_sd (τ1_2.2.1 120) (b + 1))) + ((12 - (τ1_2.2.1 120 60)) * ((ax_f_sd (τ1_2.2.1 120) (b + 1)) - (ax_f_sd (τ1_2.2.1 120) (b + (τ1_2.2.1 120 (12 + a.toInt.toNat)))))))), (5, .int ((τ1_2.2.1 120 60) * (ax_f_sd (τ1_2.2.1 120) (b + 1)))), (4, .int (ax_f_sd (τ1_2.2.1 120) (b + 1))), (0, .ref 118), (1, .int a), (2, .int b), (3, .int c)]) rd_d_X12_meant_94 (by decide) rfl ?_
        refine kr_aload_n 3 rd_d_X12_meant_96 rfl ?_
        refine kr_iload 0 rd_d_X12_meant_97 rfl ?_
        refine kr_if_ne (tgt := 106) rd_d_X12_meant_99 rfl (fun h24 => ?_) (fun h24 => ?_)
        · refine kr_iconst (v := 0) rd_d_X12_meant_106 (by decide) ?_
          refine rd_call G (T2 := tX12_throwsIf) rfl rd_d_X12_meant_107 rd_k_X12_meant_107 rfl (hT3.1 118 (.inl 12) rfl) (as := [.int 0]) (st := []) rfl (Nat.le_of_ble_eq_true rfl) rfl (Nat.le_of_ble_eq_true rfl) (d1 := 1) (by decide) (fun _ h => by cases h.1) (ax_tif0 G hT3) ?_
          intro vv4 τ2_3 ⟨hvv4, hT4, hm4, hK4⟩
          cases hvv4
          have ee4 : τ2_3.2.1 120 = τ1_2.2.1 120 := funext fun k => hm4 120 k (by decide)
          have hb : pl_B (τ2_3.2.1 120) := by rw [ee4]; exact hb
          have hb2 : pl_B2 (τ2_3.2.1 120) := by rw [ee4]; exact hb2
          have hb4 : pl_B4 (τ2_3.2.1 120) := by rw [ee4]; exact hb4
          have hbw : pl_W (τ2_3.2.1 120) := by rw [ee4]; exact hbw
          rw [← ee4] at h2 h24
          rw [← ee4]
          refine kr_if_eq (tgt := 117) rd_d_X12_meant_110 rfl (fun _ => ?_) (fun h => absurd rfl h)
          refine kr_iload 1 rd_d_X12_meant_117 rfl ?_
          refine kr_iload 0 rd_d_X12_meant_119 rfl ?_
          refine kr_iload_n 6 rd_d_X12_meant_121 rfl ?_
          refine rd_callS G (T2 := tX12_part) rfl rd_d_X12_meant_122 rd_k_X12_meant_122 rfl rfl (as := [.int ((τ2_3.2.1 120 60) * (ax_f_sd (τ2_3.2.1 120) (b + 1))), .int (((τ2_3.2.1 120 60) * (ax_f_sd (τ2_3.2.1 120) (b + 1))) + ((12 - (τ2_3.2.1 120 60)) * ((ax_f_sd (τ2_3.2.1 120) (b + 1)) - (ax_f_sd (τ2_3.2.1 120) (b + (τ2_3.2.1 120 (12 + a.toInt.toNat))))))), .int c]) (st := []) rfl (Nat.le_of_ble_eq_true rfl) rfl (Nat.le_of_ble_eq_true rfl) (d1 := 1) (by decide) (fun _ h => by cases h.1) (ax_ptM G ((τ2_3.2.1 120 60) * (ax_f_sd (τ2_3.2.1 120) (b + 1))) (((τ2_3.2.1 120 60) * (ax_f_sd (τ2_3.2.1 120) (b + 1))) + ((12 - (τ2_3.2.1 120 60)) * ((ax_f_sd (τ2_3.2.1 120) (b + 1)) - (ax_f_sd (τ2_3.2.1 120) (b + (τ2_3.2.1 120 (12 + a.toInt.toNat))))))) c (me_u hb hb2 _).1 (ax_nz1 h24 (me_a hb hb2 hb4 hbw h2 h4))) ?_
          intro v42 σ42 ⟨hv42, hs42⟩
          cases hv42
          rw [hs42]
          refine kr_ireturn rd_d_X12_meant_125 (ty := .int) rfl rfl ⟨_, rfl, hT4, ?_⟩
          rw [← ee3, ← ee4, ax_f_meM, if_neg h2, if_neg h4, if_neg h6, if_neg h24]
          exact ⟨rfl, hK4⟩
        · refine kr_iconst (v := 1) rd_d_X12_meant_102 (by decide) ?_
          refine kr_goto (tgt := 107) rd_d_X12_meant_103 rfl ?_
          refine rd_call G (T2 := tX12_throwsIf) rfl rd_d_X12_meant_107 rd_k_X12_meant_107 rfl (hT3.1 118 (.inl 12) rfl) (as := [.int 1]) (st := []) rfl (Nat.le_of_ble_eq_true rfl) rfl (Nat.le_of_ble_eq_true rfl) (d1 := 1) (by decide) (fun _ h => by cases h.1) (ax_tif1 G hT3) ?_
          intro vv5 τ2_4 ⟨hvv5, hT5, hm5, hK5⟩
          cases hvv5
          have ee5 : τ2_4.2.1 120 = τ1_2.2.1 120 := funext fun k => hm5 120 k (by decide)
          have hb : pl_B (τ2_4.2.1 120) := by rw [ee5]; exact hb
          have hb2 : pl_B2 (τ2_4.2.1 120) := by rw [ee5]; exact hb2
          have hb4 : pl_B4 (τ2_4.2.1 120) := by rw [ee5]; exact hb4
          have hbw : pl_W (τ2_4.2.1 120) := by rw [ee5]; exact hbw
          rw [← ee5] at h2 h24
          rw [← ee5]
          refine kr_if_eq (tgt := 117) rd_d_X12_meant_110 rfl (fun h => absurd h (by decide)) (fun _ => ?_)
          refine kr_iconst (v := 0) rd_d_X12_meant_113 (by decide) ?_
          refine kr_goto (tgt := 125) rd_d_X12_meant_114 rfl ?_
          refine kr_ireturn rd_d_X12_meant_125 (ty := .int) rfl rfl ⟨_, rfl, hT5, ?_⟩
          rw [← ee3, ← ee5, ax_f_meM, if_neg h2, if_neg h4, if_neg h6, if_pos h24]
          exact hK5
      · refine kr_iconst (v := 1) rd_d_X12_meant_28 (by decide) ?_
        refine kr_goto (tgt := 33) rd_d_X12_meant_29 rfl ?_
        refine rd_call G (T2 := tX12_throwsIf) rfl rd_d_X12_meant_33 rd_k_X12_meant_33 rfl (hS.1 118 (.inl 12) rfl) (as := [.int 1]) (st := []) rfl (Nat.le_of_ble_eq_true rfl) rfl (Nat.le_of_ble_eq_true rfl) (d1 := 1) (by decide) (fun _ h => by cases h.1) (ax_tif1 G hS) ?_
        intro vv6 τ1_5 ⟨hvv6, hT6, hm6, hK6⟩
        cases hvv6
        have ee6 : τ1_5.2.1 120 = σ.2.1 120 := funext fun k => hm6 120 k (by decide)
        have hb : pl_B (τ1_5.2.1 120) := by rw [ee6]; exact hb
        have hb2 : pl_B2 (τ1_5.2.1 120) := by rw [ee6]; exact hb2
        have hb4 : pl_B4 (τ1_5.2.1 120) := by rw [ee6]; exact hb4
        have hbw : pl_W (τ1_5.2.1 120) := by rw [ee6]; exact hbw
        rw [← ee6] at h2
        refine kr_if_eq (tgt := 41) rd_d_X12_meant_36 rfl (fun h => absurd h (by decide)) (fun _ => ?_)
        refine kr_iconst (v := 0) rd_d_X12_meant_39 (by decide) ?_
        refine kr_ireturn rd_d_X12_meant_40 (ty := .int) rfl rfl ⟨_, rfl, hT6, ?_⟩
        rw [← ee6, ax_f_meM, if_neg h2, if_neg h4, if_pos h6]
        exact hK6
def ax_f_thn (m : Nat → Nat → Int32) : Int32 := m 118 0
theorem ax_thn (G : sx_G0 g L xs z9 hd_C ex_mt) {σ : am_S} (hS : ax_S σ) : am_K g 1 tX12_thrown.1 0 0 0 (lv_args 0 [.ref 118]) [] σ (ax_R (ax_f_thn σ.2.1) σ) := by
  refine kr_aload_n 0 rd_d_X12_thrown_0 rfl ?_
  refine kr_getf G.1 (rd_FL rd_k_X12_thrown_1).1 rd_d_X12_thrown_1 (hS.1 118 (.inl 12) rfl) (v := .int (σ.2.1 118 0)) (by unfold am_fa; rw [(rd_FL rd_k_X12_thrown_1).2]; rfl) ?_
  exact kr_ireturn rd_d_X12_thrown_4 (ty := .int) rfl rfl ⟨rfl, rfl⟩
theorem me_h9 {m : Nat → Nat → Int32} {s : Nat → Int32} (h : pl_R m 4 s) (b : pl_B s) (b2 : pl_B2 s) {t : Int32} : 0 ≤ (ax_f_run m * ax_f_wf m (t + 1)).toInt := by
  have e : ax_f_run m = s 60 := ax_setE h (a := 6) (j := 6) rfl (by decide)
  rw [e, wf_eq h b]
  exact (me_u b b2 (t + 1)).1
theorem me_eq {m : Nat → Nat → Int32} {s : Nat → Int32} (h : pl_R m 4 s) (b : pl_B s) (b2 : pl_B2 s) (b4 : pl_B4 s) (bw : pl_W s) (a t c : Int32) : ax_f_meX m a t c = ax_f_meM s a t c := by
  have e : ax_f_isc t = ax_f_isIn t 0 60 := rfl
  have er : ax_f_run m = s 60 := ax_setE h (a := 6) (j := 6) rfl (by decide)
  rw [ax_f_meX, ax_f_meM, ax_hasE h b, e, isp_eq c, er, wf_eq h b, wf_eq h b]
  by_cases ha : ax_f_win s a = 0
  · rw [if_pos ha, if_pos ha]
  · have e1 : ax_f_tak m a = s (12 + a.toInt.toNat) := ax_rowE h b ha (r := 1) (by decide)
    rw [if_neg ha, if_neg ha, e1]
    by_cases ht : ax_f_isIn t 0 60 = 0
    · rw [if_pos ht, if_pos ht]
    · rw [if_neg ht, if_neg ht]
      by_cases hc : ax_f_isIn c 0 1 = 0
      · rw [if_pos hc, if_pos hc]
      · rw [if_neg hc, if_neg hc]
        have g := me_a b b2 b4 bw ha ht
        generalize s 60 * ax_f_sd s (t + 1) + (12 - s 60) * (ax_f_sd s (t + 1) - ax_f_sd s (t + s (12 + a.toInt.toNat))) = x at *
        by_cases hx : x = 0
        · rw [if_pos hx, if_neg (fun q => by have := ax_pos1 q; rw [hx] at this; exact absurd this (by decide))]
        · have := ax_nz1 hx g
          rw [if_neg hx, if_pos (Int32.lt_iff_toInt_lt.mpr (by show (0 : Int) < _; omega))]
end AXX
