/-! exact answers (rows written by a program) -/
theorem ax_inc {k : Int32} {j : Nat} (h : k.toInt = (j : Int)) (hj : j < 100000) : (k + 1).toInt = ((j + 1 : Nat) : Int) := by
  have z1 : (1 : Int32).toInt = 1 := rfl
  rw [sx_addI k 1 (by show (-2147483648 : Int) ≤ _; omega) (by show _ ≤ (2147483647 : Int); omega)]
  omega
theorem ax_ixn {c w : Int32} {C : Nat} (hc : c.toInt = C) (hC : C < 1000) (hw : 0 ≤ w.toInt ∧ w.toInt < 1000) : (c + w).toInt = ((C + w.toInt.toNat : Nat) : Int) := by
  rw [sx_addI c w (by show (-2147483648 : Int) ≤ _; omega) (by show _ ≤ (2147483647 : Int); omega)]
  omega
theorem ax_lkc {a o df : Int} {r : List (Int × Int)} {x A : Int32} (hA : A.toInt = a) (h : ¬ x = A) : Op.lookupswitch.offset ((a, o) :: r) df x.toInt = Op.lookupswitch.offset r df x.toInt := by
  rw [Op.lookupswitch.offset_cons, if_neg (fun e => h (Int32.toInt_inj.mp (by rw [hA, ← e])))]
theorem ax_dec {k : Int32} {f : Nat} (h : k.toInt = ((f + 1 : Nat) : Int) - 1) : (k + (-1)).toInt = (f : Int) - 1 := by
  have z1 : ((-1 : Int32)).toInt = -1 := rfl
  have := Int32.toInt_lt k
  rw [sx_addI k (-1) (by show (-2147483648 : Int) ≤ _; omega) (by show _ ≤ (2147483647 : Int); omega)]
  omega
theorem ax_dec0 {k : Int32} {f : Nat} (h : k.toInt = ((f + 1 : Nat) : Int)) : (k + (-1)).toInt = (f : Int) := by
  have z1 : ((-1 : Int32)).toInt = -1 := rfl
  have := Int32.toInt_lt k
  rw [sx_addI k (-1) (by show (-2147483648 : Int) ≤ _; omega) (by show _ ≤ (2147483647 : Int); omega)]
  omega
def ax_f_max (x y : Int32) : Int32 := if x < y then y else x
theorem ax_isIn_b (a b c : Int32) : narrow .boolean (.int (ax_f_isIn a b c)) = .int (ax_f_isIn a b c) := by
  rw [ax_f_isIn]
  split
  · rfl
  · split <;> rfl
theorem ax_ixc {w : Int32} {n : Nat} (h : w.toInt = (n : Int)) : w.toInt = ((w.toInt.toNat : Nat) : Int) := by omega
theorem rd_d_X9_has_0 : decode tX9_has.1.2.1 0 = .ok (.iload_n 1, 1) := by decide +kernel
theorem rd_d_X9_has_1 : decode tX9_has.1.2.1 1 = .ok (.ifCond .lt 15, 3) := by decide +kernel
theorem rd_d_X9_has_4 : decode tX9_has.1.2.1 4 = .ok (.iload_n 1, 1) := by decide +kernel
theorem rd_d_X9_has_5 : decode tX9_has.1.2.1 5 = .ok (.aload_n 0, 1) := by decide +kernel
theorem rd_d_X9_has_6 : decode tX9_has.1.2.1 6 = .ok (.getfield 39, 3) := by decide +kernel
theorem rd_k_X9_has_6 : ex_lk ex_mt tX9_has 6 (.getfield 39) [9, 7, 0, 65656] = true := by decide +kernel
theorem rd_d_X9_has_9 : decode tX9_has.1.2.1 9 = .ok (.if_icmp .ge 7, 3) := by decide +kernel
theorem rd_d_X9_has_12 : decode tX9_has.1.2.1 12 = .ok (.iconst 1, 1) := by decide +kernel
theorem rd_d_X9_has_13 : decode tX9_has.1.2.1 13 = .ok (.goto 4, 3) := by decide +kernel
theorem rd_d_X9_has_16 : decode tX9_has.1.2.1 16 = .ok (.iconst 0, 1) := by decide +kernel
theorem rd_d_X9_has_17 : decode tX9_has.1.2.1 17 = .ok (.ireturn, 1) := by decide +kernel
theorem rd_d_X12_isWindow_0 : decode tX12_isWindow.1.2.1 0 = .ok (.iload_n 1, 1) := by decide +kernel
theorem rd_d_X12_isWindow_1 : decode tX12_isWindow.1.2.1 1 = .ok (.iconst 0, 1) := by decide +kernel
theorem rd_d_X12_isWindow_2 : decode tX12_isWindow.1.2.1 2 = .ok (.aload_n 0, 1) := by decide +kernel
theorem rd_d_X12_isWindow_3 : decode tX12_isWindow.1.2.1 3 = .ok (.getfield 33, 3) := by decide +kernel
theorem rd_k_X12_isWindow_3 : ex_lk ex_mt tX12_isWindow 3 (.getfield 33) [12, 6, 2, 458773] = true := by decide +kernel
theorem rd_d_X12_isWindow_6 : decode tX12_isWindow.1.2.1 6 = .ok (.iconst 0, 1) := by decide +kernel
theorem rd_d_X12_isWindow_7 : decode tX12_isWindow.1.2.1 7 = .ok (.iaload, 1) := by decide +kernel
theorem rd_d_X12_isWindow_8 : decode tX12_isWindow.1.2.1 8 = .ok (.iconst 1, 1) := by decide +kernel
theorem rd_d_X12_isWindow_9 : decode tX12_isWindow.1.2.1 9 = .ok (.isub, 1) := by decide +kernel
theorem rd_d_X12_isWindow_10 : decode tX12_isWindow.1.2.1 10 = .ok (.invokestatic 134, 3) := by decide +kernel
theorem rd_k_X12_isWindow_10 : ex_lk ex_mt tX12_isWindow 10 (.invokestatic 134) [0, 119, 458953] = true := by decide +kernel
theorem rd_d_X12_isWindow_13 : decode tX12_isWindow.1.2.1 13 = .ok (.ireturn, 1) := by decide +kernel
theorem rd_d_X9_priceOf_0 : decode tX9_priceOf.1.2.1 0 = .ok (.aload_n 0, 1) := by decide +kernel
theorem rd_d_X9_priceOf_1 : decode tX9_priceOf.1.2.1 1 = .ok (.getfield 9, 3) := by decide +kernel
theorem rd_k_X9_priceOf_1 : ex_lk ex_mt tX9_priceOf 1 (.getfield 9) [9, 0, 2, 65649] = true := by decide +kernel
theorem rd_d_X9_priceOf_4 : decode tX9_priceOf.1.2.1 4 = .ok (.iload_n 1, 1) := by decide +kernel
theorem rd_d_X9_priceOf_5 : decode tX9_priceOf.1.2.1 5 = .ok (.invokestatic 118, 3) := by decide +kernel
theorem rd_k_X9_priceOf_5 : ex_lk ex_mt tX9_priceOf 5 (.invokestatic 118) [0, 32, 196745] = true := by decide +kernel
theorem rd_d_X9_priceOf_8 : decode tX9_priceOf.1.2.1 8 = .ok (.ireturn, 1) := by decide +kernel
theorem rd_d_X9_worthOf_0 : decode tX9_worthOf.1.2.1 0 = .ok (.aload_n 0, 1) := by decide +kernel
theorem rd_d_X9_worthOf_1 : decode tX9_worthOf.1.2.1 1 = .ok (.getfield 21, 3) := by decide +kernel
theorem rd_k_X9_worthOf_1 : ex_lk ex_mt tX9_worthOf 1 (.getfield 21) [9, 3, 2, 65652] = true := by decide +kernel
theorem rd_d_X9_worthOf_4 : decode tX9_worthOf.1.2.1 4 = .ok (.iload_n 1, 1) := by decide +kernel
theorem rd_d_X9_worthOf_5 : decode tX9_worthOf.1.2.1 5 = .ok (.invokestatic 118, 3) := by decide +kernel
theorem rd_k_X9_worthOf_5 : ex_lk ex_mt tX9_worthOf 5 (.invokestatic 118) [0, 32, 196745] = true := by decide +kernel
theorem rd_d_X9_worthOf_8 : decode tX9_worthOf.1.2.1 8 = .ok (.ireturn, 1) := by decide +kernel
theorem rd_d_X9_isFair_0 : decode tX9_isFair.1.2.1 0 = .ok (.aload_n 0, 1) := by decide +kernel
theorem rd_d_X9_isFair_1 : decode tX9_isFair.1.2.1 1 = .ok (.iload_n 1, 1) := by decide +kernel
theorem rd_d_X9_isFair_2 : decode tX9_isFair.1.2.1 2 = .ok (.invokevirtual 168, 3) := by decide +kernel
theorem rd_k_X9_isFair_2 : ex_lk ex_mt tX9_isFair 2 (.invokevirtual 168) [0, 319, 327797] = true := by decide +kernel
theorem rd_d_X9_isFair_5 : decode tX9_isFair.1.2.1 5 = .ok (.aload_n 0, 1) := by decide +kernel
theorem rd_d_X9_isFair_6 : decode tX9_isFair.1.2.1 6 = .ok (.iload_n 1, 1) := by decide +kernel
theorem rd_d_X9_isFair_7 : decode tX9_isFair.1.2.1 7 = .ok (.invokevirtual 152, 3) := by decide +kernel
theorem rd_k_X9_isFair_7 : ex_lk ex_mt tX9_isFair 7 (.invokevirtual 152) [0, 299, 262293] = true := by decide +kernel
theorem rd_d_X9_isFair_10 : decode tX9_isFair.1.2.1 10 = .ok (.isub, 1) := by decide +kernel
theorem rd_d_X9_isFair_11 : decode tX9_isFair.1.2.1 11 = .ok (.iload_n 2, 1) := by decide +kernel
theorem rd_d_X9_isFair_12 : decode tX9_isFair.1.2.1 12 = .ok (.imul, 1) := by decide +kernel
theorem rd_d_X9_isFair_13 : decode tX9_isFair.1.2.1 13 = .ok (.aload_n 0, 1) := by decide +kernel
theorem rd_d_X9_isFair_14 : decode tX9_isFair.1.2.1 14 = .ok (.iload_n 1, 1) := by decide +kernel
theorem rd_d_X9_isFair_15 : decode tX9_isFair.1.2.1 15 = .ok (.invokevirtual 152, 3) := by decide +kernel
theorem rd_k_X9_isFair_15 : ex_lk ex_mt tX9_isFair 15 (.invokevirtual 152) [0, 299, 262293] = true := by decide +kernel
theorem rd_d_X9_isFair_18 : decode tX9_isFair.1.2.1 18 = .ok (.bipush 12, 2) := by decide +kernel
theorem rd_d_X9_isFair_20 : decode tX9_isFair.1.2.1 20 = .ok (.iload_n 2, 1) := by decide +kernel
theorem rd_d_X9_isFair_21 : decode tX9_isFair.1.2.1 21 = .ok (.isub, 1) := by decide +kernel
theorem rd_d_X9_isFair_22 : decode tX9_isFair.1.2.1 22 = .ok (.imul, 1) := by decide +kernel
theorem rd_d_X9_isFair_23 : decode tX9_isFair.1.2.1 23 = .ok (.if_icmp .lt 7, 3) := by decide +kernel
theorem rd_d_X9_isFair_26 : decode tX9_isFair.1.2.1 26 = .ok (.iconst 1, 1) := by decide +kernel
theorem rd_d_X9_isFair_27 : decode tX9_isFair.1.2.1 27 = .ok (.goto 4, 3) := by decide +kernel
theorem rd_d_X9_isFair_30 : decode tX9_isFair.1.2.1 30 = .ok (.iconst 0, 1) := by decide +kernel
theorem rd_d_X9_isFair_31 : decode tX9_isFair.1.2.1 31 = .ok (.ireturn, 1) := by decide +kernel
theorem rd_d_X12_holds_0 : decode tX12_holds.1.2.1 0 = .ok (.aload_n 0, 1) := by decide +kernel
theorem rd_d_X12_holds_1 : decode tX12_holds.1.2.1 1 = .ok (.getfield 33, 3) := by decide +kernel
theorem rd_k_X12_holds_1 : ex_lk ex_mt tX12_holds 1 (.getfield 33) [12, 6, 2, 458773] = true := by decide +kernel
theorem rd_d_X12_holds_4 : decode tX12_holds.1.2.1 4 = .ok (.bipush 32, 2) := by decide +kernel
theorem rd_d_X12_holds_6 : decode tX12_holds.1.2.1 6 = .ok (.iload_n 1, 1) := by decide +kernel
theorem rd_d_X12_holds_7 : decode tX12_holds.1.2.1 7 = .ok (.iadd, 1) := by decide +kernel
theorem rd_d_X12_holds_8 : decode tX12_holds.1.2.1 8 = .ok (.iaload, 1) := by decide +kernel
theorem rd_d_X12_holds_9 : decode tX12_holds.1.2.1 9 = .ok (.aload_n 0, 1) := by decide +kernel
theorem rd_d_X12_holds_10 : decode tX12_holds.1.2.1 10 = .ok (.getfield 33, 3) := by decide +kernel
theorem rd_k_X12_holds_10 : ex_lk ex_mt tX12_holds 10 (.getfield 33) [12, 6, 2, 458773] = true := by decide +kernel
theorem rd_d_X12_holds_13 : decode tX12_holds.1.2.1 13 = .ok (.iconst 2, 1) := by decide +kernel
theorem rd_d_X12_holds_14 : decode tX12_holds.1.2.1 14 = .ok (.iload_n 1, 1) := by decide +kernel
theorem rd_d_X12_holds_15 : decode tX12_holds.1.2.1 15 = .ok (.iadd, 1) := by decide +kernel
theorem rd_d_X12_holds_16 : decode tX12_holds.1.2.1 16 = .ok (.iaload, 1) := by decide +kernel
theorem rd_d_X12_holds_17 : decode tX12_holds.1.2.1 17 = .ok (.isub, 1) := by decide +kernel
theorem rd_d_X12_holds_18 : decode tX12_holds.1.2.1 18 = .ok (.iload_n 2, 1) := by decide +kernel
theorem rd_d_X12_holds_19 : decode tX12_holds.1.2.1 19 = .ok (.imul, 1) := by decide +kernel
theorem rd_d_X12_holds_20 : decode tX12_holds.1.2.1 20 = .ok (.aload_n 0, 1) := by decide +kernel
theorem rd_d_X12_holds_21 : decode tX12_holds.1.2.1 21 = .ok (.getfield 33, 3) := by decide +kernel
theorem rd_k_X12_holds_21 : ex_lk ex_mt tX12_holds 21 (.getfield 33) [12, 6, 2, 458773] = true := by decide +kernel
theorem rd_d_X12_holds_24 : decode tX12_holds.1.2.1 24 = .ok (.iconst 2, 1) := by decide +kernel
theorem rd_d_X12_holds_25 : decode tX12_holds.1.2.1 25 = .ok (.iload_n 1, 1) := by decide +kernel
theorem rd_d_X12_holds_26 : decode tX12_holds.1.2.1 26 = .ok (.iadd, 1) := by decide +kernel
theorem rd_d_X12_holds_27 : decode tX12_holds.1.2.1 27 = .ok (.iaload, 1) := by decide +kernel
theorem rd_d_X12_holds_28 : decode tX12_holds.1.2.1 28 = .ok (.bipush 12, 2) := by decide +kernel
theorem rd_d_X12_holds_30 : decode tX12_holds.1.2.1 30 = .ok (.iload_n 2, 1) := by decide +kernel
theorem rd_d_X12_holds_31 : decode tX12_holds.1.2.1 31 = .ok (.isub, 1) := by decide +kernel
theorem rd_d_X12_holds_32 : decode tX12_holds.1.2.1 32 = .ok (.imul, 1) := by decide +kernel
theorem rd_d_X12_holds_33 : decode tX12_holds.1.2.1 33 = .ok (.if_icmp .lt 7, 3) := by decide +kernel
theorem rd_d_X12_holds_36 : decode tX12_holds.1.2.1 36 = .ok (.iconst 1, 1) := by decide +kernel
theorem rd_d_X12_holds_37 : decode tX12_holds.1.2.1 37 = .ok (.goto 4, 3) := by decide +kernel
theorem rd_d_X12_holds_40 : decode tX12_holds.1.2.1 40 = .ok (.iconst 0, 1) := by decide +kernel
theorem rd_d_X12_holds_41 : decode tX12_holds.1.2.1 41 = .ok (.ireturn, 1) := by decide +kernel
theorem rd_d_X11_needs_0 : decode tX11_needs.1.2.1 0 = .ok (.aload_n 0, 1) := by decide +kernel
theorem rd_d_X11_needs_1 : decode tX11_needs.1.2.1 1 = .ok (.getfield 28, 3) := by decide +kernel
theorem rd_k_X11_needs_1 : ex_lk ex_mt tX11_needs 1 (.getfield 28) [11, 2, 2, 131261] = true := by decide +kernel
theorem rd_d_X11_needs_4 : decode tX11_needs.1.2.1 4 = .ok (.iload_n 1, 1) := by decide +kernel
theorem rd_d_X11_needs_5 : decode tX11_needs.1.2.1 5 = .ok (.invokevirtual 147, 3) := by decide +kernel
theorem rd_k_X11_needs_5 : ex_lk ex_mt tX11_needs 5 (.invokevirtual 147) [0, 293, 262148] = true := by decide +kernel
theorem rd_d_X11_needs_8 : decode tX11_needs.1.2.1 8 = .ok (.ifCond .ne 5, 3) := by decide +kernel
theorem rd_d_X11_needs_11 : decode tX11_needs.1.2.1 11 = .ok (.iconst (-1), 1) := by decide +kernel
theorem rd_d_X11_needs_12 : decode tX11_needs.1.2.1 12 = .ok (.ireturn, 1) := by decide +kernel
theorem rd_d_X11_needs_13 : decode tX11_needs.1.2.1 13 = .ok (.iconst 0, 1) := by decide +kernel
theorem rd_d_X11_needs_14 : decode tX11_needs.1.2.1 14 = .ok (.istore_n 2, 1) := by decide +kernel
theorem rd_d_X11_needs_15 : decode tX11_needs.1.2.1 15 = .ok (.iload_n 2, 1) := by decide +kernel
theorem rd_d_X11_needs_16 : decode tX11_needs.1.2.1 16 = .ok (.bipush 12, 2) := by decide +kernel
theorem rd_d_X11_needs_18 : decode tX11_needs.1.2.1 18 = .ok (.if_icmp .ge 23, 3) := by decide +kernel
theorem rd_d_X11_needs_21 : decode tX11_needs.1.2.1 21 = .ok (.aload_n 0, 1) := by decide +kernel
theorem rd_d_X11_needs_22 : decode tX11_needs.1.2.1 22 = .ok (.getfield 28, 3) := by decide +kernel
theorem rd_k_X11_needs_22 : ex_lk ex_mt tX11_needs 22 (.getfield 28) [11, 2, 2, 131261] = true := by decide +kernel
theorem rd_d_X11_needs_25 : decode tX11_needs.1.2.1 25 = .ok (.iload_n 1, 1) := by decide +kernel
theorem rd_d_X11_needs_26 : decode tX11_needs.1.2.1 26 = .ok (.iload_n 2, 1) := by decide +kernel
theorem rd_d_X11_needs_27 : decode tX11_needs.1.2.1 27 = .ok (.invokevirtual 371, 3) := by decide +kernel
theorem rd_k_X11_needs_27 : ex_lk ex_mt tX11_needs 27 (.invokevirtual 371) [0, 296, 327793] = true := by decide +kernel
theorem rd_d_X11_needs_30 : decode tX11_needs.1.2.1 30 = .ok (.ifCond .eq 5, 3) := by decide +kernel
theorem rd_d_X11_needs_33 : decode tX11_needs.1.2.1 33 = .ok (.iload_n 2, 1) := by decide +kernel
theorem rd_d_X11_needs_34 : decode tX11_needs.1.2.1 34 = .ok (.ireturn, 1) := by decide +kernel
theorem rd_d_X11_needs_35 : decode tX11_needs.1.2.1 35 = .ok (.iinc 2 1, 3) := by decide +kernel
theorem rd_d_X11_needs_38 : decode tX11_needs.1.2.1 38 = .ok (.goto (-23), 3) := by decide +kernel
theorem rd_d_X11_needs_41 : decode tX11_needs.1.2.1 41 = .ok (.iconst (-1), 1) := by decide +kernel
theorem rd_d_X11_needs_42 : decode tX11_needs.1.2.1 42 = .ok (.ireturn, 1) := by decide +kernel
theorem rd_d_X12_needs_0 : decode tX12_needs.1.2.1 0 = .ok (.aload_n 0, 1) := by decide +kernel
theorem rd_d_X12_needs_1 : decode tX12_needs.1.2.1 1 = .ok (.iconst 0, 1) := by decide +kernel
theorem rd_d_X12_needs_2 : decode tX12_needs.1.2.1 2 = .ok (.putfield 1, 3) := by decide +kernel
theorem rd_k_X12_needs_2 : ex_lk ex_mt tX12_needs 2 (.putfield 1) [12, 0, 0, 458767] = true := by decide +kernel
theorem rd_d_X12_needs_5 : decode tX12_needs.1.2.1 5 = .ok (.aload_n 0, 1) := by decide +kernel
theorem rd_d_X12_needs_6 : decode tX12_needs.1.2.1 6 = .ok (.iload_n 1, 1) := by decide +kernel
theorem rd_d_X12_needs_7 : decode tX12_needs.1.2.1 7 = .ok (.invokevirtual 214, 3) := by decide +kernel
theorem rd_k_X12_needs_7 : ex_lk ex_mt tX12_needs 7 (.invokevirtual 214) [0, 125, 458991] = true := by decide +kernel
theorem rd_d_X12_needs_10 : decode tX12_needs.1.2.1 10 = .ok (.ifCond .ne 5, 3) := by decide +kernel
theorem rd_d_X12_needs_13 : decode tX12_needs.1.2.1 13 = .ok (.iconst (-1), 1) := by decide +kernel
theorem rd_d_X12_needs_14 : decode tX12_needs.1.2.1 14 = .ok (.ireturn, 1) := by decide +kernel
theorem rd_d_X12_needs_15 : decode tX12_needs.1.2.1 15 = .ok (.iconst 0, 1) := by decide +kernel
theorem rd_d_X12_needs_16 : decode tX12_needs.1.2.1 16 = .ok (.istore_n 2, 1) := by decide +kernel
theorem rd_d_X12_needs_17 : decode tX12_needs.1.2.1 17 = .ok (.iload_n 2, 1) := by decide +kernel
theorem rd_d_X12_needs_18 : decode tX12_needs.1.2.1 18 = .ok (.bipush 12, 2) := by decide +kernel
theorem rd_d_X12_needs_20 : decode tX12_needs.1.2.1 20 = .ok (.if_icmp .ge 20, 3) := by decide +kernel
theorem rd_d_X12_needs_23 : decode tX12_needs.1.2.1 23 = .ok (.aload_n 0, 1) := by decide +kernel
theorem rd_d_X12_needs_24 : decode tX12_needs.1.2.1 24 = .ok (.iload_n 1, 1) := by decide +kernel
theorem rd_d_X12_needs_25 : decode tX12_needs.1.2.1 25 = .ok (.iload_n 2, 1) := by decide +kernel
theorem rd_d_X12_needs_26 : decode tX12_needs.1.2.1 26 = .ok (.invokevirtual 341, 3) := by decide +kernel
theorem rd_k_X12_needs_26 : ex_lk ex_mt tX12_needs 26 (.invokevirtual 341) [0, 114, 589842] = true := by decide +kernel
theorem rd_d_X12_needs_29 : decode tX12_needs.1.2.1 29 = .ok (.ifCond .eq 5, 3) := by decide +kernel
theorem rd_d_X12_needs_32 : decode tX12_needs.1.2.1 32 = .ok (.iload_n 2, 1) := by decide +kernel
theorem rd_d_X12_needs_33 : decode tX12_needs.1.2.1 33 = .ok (.ireturn, 1) := by decide +kernel
theorem rd_d_X12_needs_34 : decode tX12_needs.1.2.1 34 = .ok (.iinc 2 1, 3) := by decide +kernel
theorem rd_d_X12_needs_37 : decode tX12_needs.1.2.1 37 = .ok (.goto (-20), 3) := by decide +kernel
theorem rd_d_X12_needs_40 : decode tX12_needs.1.2.1 40 = .ok (.iconst (-1), 1) := by decide +kernel
theorem rd_d_X12_needs_41 : decode tX12_needs.1.2.1 41 = .ok (.ireturn, 1) := by decide +kernel
section AXX
variable {g : am_C} {L : Nat} {xs : Nat → Int32}
def pl_Bm (σ : am_S) : Prop := (0 ≤ (σ.2.1 4 7).toInt ∧ (σ.2.1 4 7).toInt ≤ 10) ∧ (0 ≤ (σ.2.1 4 8).toInt ∧ (σ.2.1 4 8).toInt ≤ 6) ∧ pl_B (σ.2.1 120)
theorem pl_Bm_of {σe σ : am_S} {m : Nat} (hM : sx_M z9 hd_C σe m 0 σ) : pl_Bm σ := ⟨hM.2.2.1 4 7 _ _ _ rfl, hM.2.2.1 4 8 _ _ _ rfl, (pl_BM hM).1⟩
def ax_f_has (m : Nat → Nat → Int32) (a : Int32) : Int32 := if a < 0 then 0 else if (m 4 7) ≤ a then 0 else 1
theorem ax_has (G : sx_G0 g L xs z9 hd_C ex_mt) {σ : am_S} (hS : ax_S σ) (a : Int32) : am_K g 1 tX9_has.1 0 0 0 (lv_args 0 [.ref 4, .int a]) [] σ (ax_R (ax_f_has σ.2.1 a) σ) := by
  refine kr_iload_n 1 rd_d_X9_has_0 rfl ?_
  refine kr_if_lt (tgt := 16) rd_d_X9_has_1 rfl (fun h1 => ?_) (fun h1 => ?_)
  · refine kr_iconst (v := 0) rd_d_X9_has_16 (by decide) ?_
    exact kr_ireturn rd_d_X9_has_17 (ty := .boolean) rfl rfl ⟨by rw [ax_f_has, if_pos h1], rfl⟩
  · refine kr_iload_n 1 rd_d_X9_has_4 rfl ?_
    refine kr_aload_n 0 rd_d_X9_has_5 rfl ?_
    refine kr_getf G.1 (rd_FL rd_k_X9_has_6).1 rd_d_X9_has_6 (hS.1 4 (.inl 9) rfl) (v := .int (σ.2.1 4 7)) (by unfold am_fa; rw [(rd_FL rd_k_X9_has_6).2]; rfl) ?_
    refine kr_icmp_ge (tgt := 16) rd_d_X9_has_9 rfl (fun h2 => ?_) (fun h2 => ?_)
    · refine kr_iconst (v := 0) rd_d_X9_has_16 (by decide) ?_
      exact kr_ireturn rd_d_X9_has_17 (ty := .boolean) rfl rfl ⟨by rw [ax_f_has, if_neg h1, if_pos h2], rfl⟩
    · refine kr_iconst (v := 1) rd_d_X9_has_12 (by decide) ?_
      refine kr_goto (tgt := 17) rd_d_X9_has_13 rfl ?_
      exact kr_ireturn rd_d_X9_has_17 (ty := .boolean) rfl rfl ⟨by rw [ax_f_has, if_neg h1, if_neg h2], rfl⟩
def ax_f_win (s : Nat → Int32) (a : Int32) : Int32 := ax_f_isIn a 0 ((s 0) - 1)
theorem ax_win (G : sx_G0 g L xs z9 hd_C ex_mt) {σ : am_S} (hS : ax_S σ) (a : Int32) : am_K g 2 tX12_isWindow.1 0 0 0 (lv_args 0 [.ref 118, .int a]) [] σ (ax_R (ax_f_win (σ.2.1 120) a) σ) := by
  refine kr_iload_n 1 rd_d_X12_isWindow_0 rfl ?_
  refine kr_iconst (v := 0) rd_d_X12_isWindow_1 (by decide) ?_
  refine kr_aload_n 0 rd_d_X12_isWindow_2 rfl ?_
  refine kr_getf G.1 (rd_FL rd_k_X12_isWindow_3).1 rd_d_X12_isWindow_3 (hS.1 118 (.inl 12) rfl) (v := .ref 120) (by unfold am_fa; rw [(rd_FL rd_k_X12_isWindow_3).2]; exact hS.2 118 6 120 rfl) ?_
  refine kr_iconst (v := 0) rd_d_X12_isWindow_6 (by decide) ?_
  refine kr_iald G.1 (n := 277) rd_d_X12_isWindow_7 (hS.1 120 (.inr (.int, 277)) rfl) (hd_in (n := 0) (by decide) (by decide)) ?_
  rw [hd_clamp (n := 0) (by decide)]
  refine kr_iconst (v := 1) rd_d_X12_isWindow_8 (by decide) ?_
  refine kr_isub rd_d_X12_isWindow_9 ?_
  refine rd_callS G (T2 := tX12_isIn) rfl rd_d_X12_isWindow_10 rd_k_X12_isWindow_10 rfl rfl (as := [.int a, .int 0, .int ((σ.2.1 120 0) - 1)]) (st := []) rfl (Nat.le_of_ble_eq_true rfl) rfl (Nat.le_of_ble_eq_true rfl) (d1 := 1) (by decide) (fun _ h => by cases h.1) (ax_isIn G hS a 0 ((σ.2.1 120 0) - 1)) ?_
  intro v1 σ1 ⟨hv1, hs1⟩
  cases hv1
  rw [hs1]
  exact kr_ireturn rd_d_X12_isWindow_13 (ty := .boolean) rfl (ax_isIn_b _ _ _) ⟨rfl, rfl⟩
theorem ax_winI {s : Nat → Int32} (b : pl_B s) {a : Int32} (h : ¬ ax_f_win s a = 0) : 0 ≤ a.toInt ∧ a.toInt < (s 0).toInt ∧ a.toInt < 10 := by
  have z0 : (0 : Int32).toInt = 0 := rfl
  have z1 : (1 : Int32).toInt = 1 := rfl
  obtain ⟨⟨b1, b2⟩, -⟩ := b
  have e := sx_subI (s 0) 1 (by show (-2147483648 : Int) ≤ _; omega) (by show _ ≤ (2147483647 : Int); omega)
  rw [ax_f_win, ax_f_isIn] at h
  split at h
  · exact absurd rfl h
  · rename_i q1
    split at h
    · exact absurd rfl h
    · rename_i q2
      have g1 : ¬ a.toInt < 0 := fun q => q1 (Int32.lt_iff_toInt_lt.mpr (by omega))
      have g2 : ¬ (s 0 - 1).toInt < a.toInt := fun q => q2 (Int32.lt_iff_toInt_lt.mpr q)
      omega
theorem ax_win10 {s : Nat → Int32} (b : pl_B s) {a : Int32} (h : ¬ ax_f_win s a = 0) : 0 ≤ a.toInt ∧ a.toInt < 10 := ⟨(ax_winI b h).1, (ax_winI b h).2.2⟩
theorem pl_w {m : Nat → Nat → Int32} {o : Nat} {s : Nat → Int32} (h : pl_R m o s) : m o 7 = s 0 := Int32.toInt_inj.mp h.1
theorem ax_hasE {m : Nat → Nat → Int32} {s : Nat → Int32} (h : pl_R m 4 s) (b : pl_B s) (a : Int32) : ax_f_has m a = ax_f_win s a := by
  have z0 : (0 : Int32).toInt = 0 := rfl
  have z1 : (1 : Int32).toInt = 1 := rfl
  have hw := pl_w h
  obtain ⟨⟨b1, b2⟩, -⟩ := b
  have e := sx_subI (s 0) 1 (by show (-2147483648 : Int) ≤ _; omega) (by show _ ≤ (2147483647 : Int); omega)
  rw [ax_f_has, ax_f_win, ax_f_isIn, hw]
  by_cases g1 : a < 0
  · rw [if_pos g1, if_pos g1]
  · rw [if_neg g1, if_neg g1]
    by_cases g2 : s 0 ≤ a
    · rw [if_pos g2, if_pos (Int32.lt_iff_toInt_lt.mpr (by have := Int32.le_iff_toInt_le.mp g2; omega))]
    · rw [if_neg g2, if_neg (fun q => g2 (Int32.le_iff_toInt_le.mpr (by have := Int32.lt_iff_toInt_lt.mp q; omega)))]
theorem ax_rowE {m : Nat → Nat → Int32} {s : Nat → Int32} (h : pl_R m 4 s) (b : pl_B s) {a : Int32} (ha : ¬ ax_f_win s a = 0) {r : Nat} (hr : r < 4) : ax_ent (m (5 + r)) 10 a = s (rc_bs r + a.toInt.toNat) := by
  obtain ⟨a1, a2, a3⟩ := ax_winI b ha
  rw [ax_ent_in (k := a.toInt.toNat) (by decide) (by omega) (by omega)]
  have := h.2.2.2 r (by omega) a.toInt.toNat (by rw [rc_c, if_pos hr]; omega)
  rw [show 4 + 1 + r = 5 + r by omega] at this
  exact this
theorem ax_setE {m : Nat → Nat → Int32} {s : Nat → Int32} (h : pl_R m 4 s) {a : Int32} {j : Nat} (e : a.toInt = (j : Int)) (hj : j < 8) : ax_ent (m 11) 8 a = s (54 + j) := by
  rw [ax_ent_in (k := j) (by decide) e hj]
  exact h.2.2.2 6 (by decide) j hj
def ax_f_pri (m : Nat → Nat → Int32) (a : Int32) : Int32 := ax_ent (m 5) 10 a
theorem ax_pri (G : sx_G0 g L xs z9 hd_C ex_mt) {σ : am_S} (hS : ax_S σ) (a : Int32) : am_K g 2 tX9_priceOf.1 0 0 0 (lv_args 0 [.ref 4, .int a]) [] σ (ax_R (ax_f_pri σ.2.1 a) σ) := by
  refine kr_aload_n 0 rd_d_X9_priceOf_0 rfl ?_
  refine kr_getf G.1 (rd_FL rd_k_X9_priceOf_1).1 rd_d_X9_priceOf_1 (hS.1 4 (.inl 9) rfl) (v := .ref 5) (by unfold am_fa; rw [(rd_FL rd_k_X9_priceOf_1).2]; exact hS.2 4 0 5 rfl) ?_
  refine kr_iload_n 1 rd_d_X9_priceOf_4 rfl ?_
  refine rd_callS G (T2 := tX11_entry) rfl rd_d_X9_priceOf_5 rd_k_X9_priceOf_5 rfl rfl (as := [.ref 5, .int a]) (st := []) rfl (Nat.le_of_ble_eq_true rfl) rfl (Nat.le_of_ble_eq_true rfl) (d1 := 1) (by decide) (fun _ h => by cases h.1) (ax_entry G (hS.1 5 (.inr (.int, 10)) rfl) (by decide) a) ?_
  intro v1 σ1 ⟨hv1, hs1⟩
  cases hv1
  rw [hs1]
  exact kr_ireturn rd_d_X9_priceOf_8 (ty := .int) rfl rfl ⟨rfl, rfl⟩
def ax_f_wor (m : Nat → Nat → Int32) (a : Int32) : Int32 := ax_ent (m 8) 10 a
theorem ax_wor (G : sx_G0 g L xs z9 hd_C ex_mt) {σ : am_S} (hS : ax_S σ) (a : Int32) : am_K g 2 tX9_worthOf.1 0 0 0 (lv_args 0 [.ref 4, .int a]) [] σ (ax_R (ax_f_wor σ.2.1 a) σ) := by
  refine kr_aload_n 0 rd_d_X9_worthOf_0 rfl ?_
  refine kr_getf G.1 (rd_FL rd_k_X9_worthOf_1).1 rd_d_X9_worthOf_1 (hS.1 4 (.inl 9) rfl) (v := .ref 8) (by unfold am_fa; rw [(rd_FL rd_k_X9_worthOf_1).2]; exact hS.2 4 3 8 rfl) ?_
  refine kr_iload_n 1 rd_d_X9_worthOf_4 rfl ?_
  refine rd_callS G (T2 := tX11_entry) rfl rd_d_X9_worthOf_5 rd_k_X9_worthOf_5 rfl rfl (as := [.ref 8, .int a]) (st := []) rfl (Nat.le_of_ble_eq_true rfl) rfl (Nat.le_of_ble_eq_true rfl) (d1 := 1) (by decide) (fun _ h => by cases h.1) (ax_entry G (hS.1 8 (.inr (.int, 10)) rfl) (by decide) a) ?_
  intro v1 σ1 ⟨hv1, hs1⟩
  cases hv1
  rw [hs1]
  exact kr_ireturn rd_d_X9_worthOf_8 (ty := .int) rfl rfl ⟨rfl, rfl⟩
def ax_f_fairX (m : Nat → Nat → Int32) (a b : Int32) : Int32 := if (((ax_f_wor m a) - (ax_f_pri m a)) * b) < ((ax_f_pri m a) * (12 - b)) then 0 else 1
theorem ax_fairX (G : sx_G0 g L xs z9 hd_C ex_mt) {σ : am_S} (hS : ax_S σ) (a b : Int32) : am_K g 3 tX9_isFair.1 0 0 0 (lv_args 0 [.ref 4, .int a, .int b]) [] σ (ax_R (ax_f_fairX σ.2.1 a b) σ) := by
  refine kr_aload_n 0 rd_d_X9_isFair_0 rfl ?_
  refine kr_iload_n 1 rd_d_X9_isFair_1 rfl ?_
  refine rd_call G (T2 := tX9_worthOf) rfl rd_d_X9_isFair_2 rd_k_X9_isFair_2 rfl (hS.1 4 (.inl 9) rfl) (as := [.int a]) (st := []) rfl (Nat.le_of_ble_eq_true rfl) rfl (Nat.le_of_ble_eq_true rfl) (d1 := 2) (by decide) (fun _ h => by cases h.1) (ax_wor G hS a) ?_
  intro v1 σ1 ⟨hv1, hs1⟩
  cases hv1
  rw [hs1]
  refine kr_aload_n 0 rd_d_X9_isFair_5 rfl ?_
  refine kr_iload_n 1 rd_d_X9_isFair_6 rfl ?_
  refine rd_call G (T2 := tX9_priceOf) rfl rd_d_X9_isFair_7 rd_k_X9_isFair_7 rfl (hS.1 4 (.inl 9) rfl) (as := [.int a]) (st := [.int (ax_f_wor σ.2.1 a)]) rfl (Nat.le_of_ble_eq_true rfl) rfl (Nat.le_of_ble_eq_true rfl) (d1 := 2) (by decide) (fun _ h => by cases h.1) (ax_pri G hS a) ?_
  intro v2 σ2 ⟨hv2, hs2⟩
  cases hv2
  rw [hs2]
  refine kr_isub rd_d_X9_isFair_10 ?_
  refine kr_iload_n 2 rd_d_X9_isFair_11 rfl ?_
  refine kr_imul rd_d_X9_isFair_12 ?_
  refine kr_aload_n 0 rd_d_X9_isFair_13 rfl ?_
  refine kr_iload_n 1 rd_d_X9_isFair_14 rfl ?_
  refine rd_call G (T2 := tX9_priceOf) rfl rd_d_X9_isFair_15 rd_k_X9_isFair_15 rfl (hS.1 4 (.inl 9) rfl) (as := [.int a]) (st := [.int (((ax_f_wor σ.2.1 a) - (ax_f_pri σ.2.1 a)) * b)]) rfl (Nat.le_of_ble_eq_true rfl) rfl (Nat.le_of_ble_eq_true rfl) (d1 := 2) (by decide) (fun _ h => by cases h.1) (ax_pri G hS a) ?_
  intro v3 σ3 ⟨hv3, hs3⟩
  cases hv3
  rw [hs3]
  refine kr_bipush (v := 12) rd_d_X9_isFair_18 (by decide) ?_
  refine kr_iload_n 2 rd_d_X9_isFair_20 rfl ?_
  refine kr_isub rd_d_X9_isFair_21 ?_
  refine kr_imul rd_d_X9_isFair_22 ?_
  refine kr_icmp_lt (tgt := 30) rd_d_X9_isFair_23 rfl (fun h4 => ?_) (fun h4 => ?_)
  · refine kr_iconst (v := 0) rd_d_X9_isFair_30 (by decide) ?_
    exact kr_ireturn rd_d_X9_isFair_31 (ty := .boolean) rfl rfl ⟨by rw [ax_f_fairX, if_pos h4], rfl⟩
  · refine kr_iconst (v := 1) rd_d_X9_isFair_26 (by decide) ?_
    refine kr_goto (tgt := 31) rd_d_X9_isFair_27 rfl ?_
    exact kr_ireturn rd_d_X9_isFair_31 (ty := .boolean) rfl rfl ⟨by rw [ax_f_fairX, if_neg h4], rfl⟩
def ax_f_hldM (s : Nat → Int32) (a b : Int32) : Int32 := if (((s (32 + a.toInt.toNat)) - (s (2 + a.toInt.toNat))) * b) < ((s (2 + a.toInt.toNat)) * (12 - b)) then 0 else 1
theorem ax_hldM (G : sx_G0 g L xs z9 hd_C ex_mt) {σ : am_S} (hS : ax_S σ) (a b : Int32) (ha : 0 ≤ a.toInt ∧ a.toInt < 10) : am_K g 1 tX12_holds.1 0 0 0 (lv_args 0 [.ref 118, .int a, .int b]) [] σ (ax_R (ax_f_hldM (σ.2.1 120) a b) σ) := by
  refine kr_aload_n 0 rd_d_X12_holds_0 rfl ?_
  refine kr_getf G.1 (rd_FL rd_k_X12_holds_1).1 rd_d_X12_holds_1 (hS.1 118 (.inl 12) rfl) (v := .ref 120) (by unfold am_fa; rw [(rd_FL rd_k_X12_holds_1).2]; exact hS.2 118 6 120 rfl) ?_
  refine kr_bipush (v := 32) rd_d_X12_holds_4 (by decide) ?_
  refine kr_iload_n 1 rd_d_X12_holds_6 rfl ?_
  refine kr_iadd rd_d_X12_holds_7 ?_
  refine kr_iald G.1 (n := 277) rd_d_X12_holds_8 (hS.1 120 (.inr (.int, 277)) rfl) (hd_in (n := 32 + a.toInt.toNat) (ax_ixn (C := 32) (by decide) (by decide) ⟨ha.1, Int.lt_trans ha.2 (by decide)⟩) (by omega)) ?_
  rw [hd_clamp (n := 32 + a.toInt.toNat) (ax_ixn (C := 32) (by decide) (by decide) ⟨ha.1, Int.lt_trans ha.2 (by decide)⟩)]
  refine kr_aload_n 0 rd_d_X12_holds_9 rfl ?_
  refine kr_getf G.1 (rd_FL rd_k_X12_holds_10).1 rd_d_X12_holds_10 (hS.1 118 (.inl 12) rfl) (v := .ref 120) (by unfold am_fa; rw [(rd_FL rd_k_X12_holds_10).2]; exact hS.2 118 6 120 rfl) ?_
  refine kr_iconst (v := 2) rd_d_X12_holds_13 (by decide) ?_
  refine kr_iload_n 1 rd_d_X12_holds_14 rfl ?_
  refine kr_iadd rd_d_X12_holds_15 ?_
  refine kr_iald G.1 (n := 277) rd_d_X12_holds_16 (hS.1 120 (.inr (.int, 277)) rfl) (hd_in (n := 2 + a.toInt.toNat) (ax_ixn (C := 2) (by decide) (by decide) ⟨ha.1, Int.lt_trans ha.2 (by decide)⟩) (by omega)) ?_
  rw [hd_clamp (n := 2 + a.toInt.toNat) (ax_ixn (C := 2) (by decide) (by decide) ⟨ha.1, Int.lt_trans ha.2 (by decide)⟩)]
  refine kr_isub rd_d_X12_holds_17 ?_
  refine kr_iload_n 2 rd_d_X12_holds_18 rfl ?_
  refine kr_imul rd_d_X12_holds_19 ?_
  refine kr_aload_n 0 rd_d_X12_holds_20 rfl ?_
  refine kr_getf G.1 (rd_FL rd_k_X12_holds_21).1 rd_d_X12_holds_21 (hS.1 118 (.inl 12) rfl) (v := .ref 120) (by unfold am_fa; rw [(rd_FL rd_k_X12_holds_21).2]; exact hS.2 118 6 120 rfl) ?_
  refine kr_iconst (v := 2) rd_d_X12_holds_24 (by decide) ?_
  refine kr_iload_n 1 rd_d_X12_holds_25 rfl ?_
  refine kr_iadd rd_d_X12_holds_26 ?_
  refine kr_iald G.1 (n := 277) rd_d_X12_holds_27 (hS.1 120 (.inr (.int, 277)) rfl) (hd_in (n := 2 + a.toInt.toNat) (ax_ixn (C := 2) (by decide) (by decide) ⟨ha.1, Int.lt_trans ha.2 (by decide)⟩) (by omega)) ?_
  rw [hd_clamp (n := 2 + a.toInt.toNat) (ax_ixn (C := 2) (by decide) (by decide) ⟨ha.1, Int.lt_trans ha.2 (by decide)⟩)]
  refine kr_bipush (v := 12) rd_d_X12_holds_28 (by decide) ?_
  refine kr_iload_n 2 rd_d_X12_holds_30 rfl ?_
  refine kr_isub rd_d_X12_holds_31 ?_
  refine kr_imul rd_d_X12_holds_32 ?_
  refine kr_icmp_lt (tgt := 40) rd_d_X12_holds_33 rfl (fun h1 => ?_) (fun h1 => ?_)
  · refine kr_iconst (v := 0) rd_d_X12_holds_40 (by decide) ?_
    exact kr_ireturn rd_d_X12_holds_41 (ty := .boolean) rfl rfl ⟨by rw [ax_f_hldM, if_pos h1], rfl⟩
  · refine kr_iconst (v := 1) rd_d_X12_holds_36 (by decide) ?_
    refine kr_goto (tgt := 41) rd_d_X12_holds_37 rfl ?_
    exact kr_ireturn rd_d_X12_holds_41 (ty := .boolean) rfl rfl ⟨by rw [ax_f_hldM, if_neg h1], rfl⟩
theorem fair_eq {m : Nat → Nat → Int32} {s : Nat → Int32} (h : pl_R m 4 s) (b : pl_B s) {a : Int32} (ha : ¬ ax_f_win s a = 0) (c : Int32) : ax_f_fairX m a c = ax_f_hldM s a c := by
  have e0 : ax_f_pri m a = s (2 + a.toInt.toNat) := ax_rowE h b ha (r := 0) (by decide)
  have e3 : ax_f_wor m a = s (32 + a.toInt.toNat) := ax_rowE h b ha (r := 3) (by decide)
  rw [ax_f_fairX, ax_f_hldM, e0, e3]
def ax_s_ndX (m : Nat → Nat → Int32) (a : Int32) (rec : Int32 → Int32) (k : Int32) : Int32 := if 12 ≤ k then (-1) else if (ax_f_fairX m a k) = 0 then rec (k + 1) else k
def ax_l_ndX (m : Nat → Nat → Int32) (a : Int32) : Nat → Int32 → Int32
  | 0, k => ax_s_ndX m a (fun _ => 0) k
  | f + 1, k => ax_s_ndX m a (ax_l_ndX m a f) k
theorem ax_l_ndX_zero (m : Nat → Nat → Int32) (a : Int32) (k : Int32) : ax_l_ndX m a 0 k = ax_s_ndX m a (fun _ => 0) k := rfl
theorem ax_l_ndX_succ (m : Nat → Nat → Int32) (a : Int32) (f : Nat) (k : Int32) : ax_l_ndX m a (f + 1) k = ax_s_ndX m a (ax_l_ndX m a f) k := rfl
theorem ax_lo_ndX (G : sx_G0 g L xs z9 hd_C ex_mt) {σ : am_S} (hS : ax_S σ) (a : Int32) : ∀ (f j : Nat) (k : Int32), k.toInt = (j : Int) → j + f = 12 → am_K g 4 tX11_needs.1 0 0 15 [(2, .int k), (0, .ref 0), (1, .int a)] [] σ (ax_R (ax_l_ndX σ.2.1 a f k) σ) := by
  intro f
  induction f with
  | zero =>
    intro j k ek hj
    refine kr_iload_n 0 rd_d_X11_needs_15 rfl ?_
    refine kr_bipush (v := 12) rd_d_X11_needs_16 (by decide) ?_
    refine kr_icmp_ge (tgt := 41) rd_d_X11_needs_18 rfl (fun h1 => ?_) (fun h1 => ?_)
    · refine kr_iconst (v := (-1)) rd_d_X11_needs_41 (by decide) ?_
      exact kr_ireturn rd_d_X11_needs_42 (ty := .int) rfl rfl ⟨by rw [ax_l_ndX_zero, ax_s_ndX, if_pos h1], rfl⟩
    · exact absurd (Int32.le_iff_toInt_le.mpr (by show (12 : Int) ≤ _; omega)) h1
  | succ f ih =>
    intro j k ek hj
    refine kr_iload_n 0 rd_d_X11_needs_15 rfl ?_
    refine kr_bipush (v := 12) rd_d_X11_needs_16 (by decide) ?_
    refine kr_icmp_ge (tgt := 41) rd_d_X11_needs_18 rfl (fun h1 => ?_) (fun h1 => ?_)
    · refine kr_iconst (v := (-1)) rd_d_X11_needs_41 (by decide) ?_
      exact kr_ireturn rd_d_X11_needs_42 (ty := .int) rfl rfl ⟨by rw [ax_l_ndX_succ, ax_s_ndX, if_pos h1], rfl⟩
    · refine kr_aload_n 1 rd_d_X11_needs_21 rfl ?_
      refine kr_getf G.1 (rd_FL rd_k_X11_needs_22).1 rd_d_X11_needs_22 (hS.1 0 (.inl 11) rfl) (v := .ref 4) (by unfold am_fa; rw [(rd_FL rd_k_X11_needs_22).2]; exact hS.2 0 2 4 rfl) ?_
      refine kr_iload_n 2 rd_d_X11_needs_25 rfl ?_
      refine kr_iload_n 0 rd_d_X11_needs_26 rfl ?_
      refine rd_call G (T2 := tX9_isFair) rfl rd_d_X11_needs_27 rd_k_X11_needs_27 rfl (hS.1 4 (.inl 9) rfl) (as := [.int a, .int k]) (st := []) rfl (Nat.le_of_ble_eq_true rfl) rfl (Nat.le_of_ble_eq_true rfl) (d1 := 3) (by decide) (fun _ h => by cases h.1) (ax_fairX G hS a k) ?_
      intro v2 σ2 ⟨hv2, hs2⟩
      cases hv2
      rw [hs2]
      refine kr_if_eq (tgt := 35) rd_d_X11_needs_30 rfl (fun h3 => ?_) (fun h3 => ?_)
      · refine kr_iinc (v := k + 1) (lv' := [(2, .int (k + 1)), (0, .ref 0), (1, .int a)]) 0 rd_d_X11_needs_35 rfl rfl (by decide) rfl ?_
        refine kr_goto (tgt := 15) rd_d_X11_needs_38 rfl ?_
        rw [ax_l_ndX_succ, ax_s_ndX, if_neg h1, if_pos h3]
        exact ih (j + 1) (k + 1) (ax_inc ek (by omega)) (by omega)
      · refine kr_iload_n 0 rd_d_X11_needs_33 rfl ?_
        exact kr_ireturn rd_d_X11_needs_34 (ty := .int) rfl rfl ⟨by rw [ax_l_ndX_succ, ax_s_ndX, if_neg h1, if_neg h3], rfl⟩
def ax_s_ndM (s : Nat → Int32) (a : Int32) (rec : Int32 → Int32) (k : Int32) : Int32 := if 12 ≤ k then (-1) else if (ax_f_hldM (s) a k) = 0 then rec (k + 1) else k
def ax_l_ndM (s : Nat → Int32) (a : Int32) : Nat → Int32 → Int32
  | 0, k => ax_s_ndM s a (fun _ => 0) k
  | f + 1, k => ax_s_ndM s a (ax_l_ndM s a f) k
theorem ax_l_ndM_zero (s : Nat → Int32) (a : Int32) (k : Int32) : ax_l_ndM s a 0 k = ax_s_ndM s a (fun _ => 0) k := rfl
theorem ax_l_ndM_succ (s : Nat → Int32) (a : Int32) (f : Nat) (k : Int32) : ax_l_ndM s a (f + 1) k = ax_s_ndM s a (ax_l_ndM s a f) k := rfl
theorem ax_lo_ndM (G : sx_G0 g L xs z9 hd_C ex_mt) {σ : am_S} (hS : ax_S σ) (a : Int32) (ha : 0 ≤ a.toInt ∧ a.toInt < 10) : ∀ (f j : Nat) (k : Int32), k.toInt = (j : Int) → j + f = 12 → am_K g 2 tX12_needs.1 0 0 17 [(2, .int k), (0, .ref 118), (1, .int a)] [] σ (ax_R (ax_l_ndM (σ.2.1 120) a f k) σ) := by
  intro f
  induction f with
  | zero =>
    intro j k ek hj
    refine kr_iload_n 0 rd_d_X12_needs_17 rfl ?_
    refine kr_bipush (v := 12) rd_d_X12_needs_18 (by decide) ?_
    refine kr_icmp_ge (tgt := 40) rd_d_X12_needs_20 rfl (fun h1 => ?_) (fun h1 => ?_)
    · refine kr_iconst (v := (-1)) rd_d_X12_needs_40 (by decide) ?_
      exact kr_ireturn rd_d_X12_needs_41 (ty := .int) rfl rfl ⟨by rw [ax_l_ndM_zero, ax_s_ndM, if_pos h1], rfl⟩
    · exact absurd (Int32.le_iff_toInt_le.mpr (by show (12 : Int) ≤ _; omega)) h1
  | succ f ih =>
    intro j k ek hj
    refine kr_iload_n 0 rd_d_X12_needs_17 rfl ?_
    refine kr_bipush (v := 12) rd_d_X12_needs_18 (by decide) ?_
    refine kr_icmp_ge (tgt := 40) rd_d_X12_needs_20 rfl (fun h1 => ?_) (fun h1 => ?_)
    · refine kr_iconst (v := (-1)) rd_d_X12_needs_40 (by decide) ?_
      exact kr_ireturn rd_d_X12_needs_41 (ty := .int) rfl rfl ⟨by rw [ax_l_ndM_succ, ax_s_ndM, if_pos h1], rfl⟩
    · refine kr_aload_n 1 rd_d_X12_needs_23 rfl ?_
      refine kr_iload_n 2 rd_d_X12_needs_24 rfl ?_
      refine kr_iload_n 0 rd_d_X12_needs_25 rfl ?_
      refine rd_call G (T2 := tX12_holds) rfl rd_d_X12_needs_26 rd_k_X12_needs_26 rfl (hS.1 118 (.inl 12) rfl) (as := [.int a, .int k]) (st := []) rfl (Nat.le_of_ble_eq_true rfl) rfl (Nat.le_of_ble_eq_true rfl) (d1 := 1) (by decide) (fun _ h => by cases h.1) (ax_hldM G hS a k ha) ?_
      intro v2 σ2 ⟨hv2, hs2⟩
      cases hv2
      rw [hs2]
      refine kr_if_eq (tgt := 34) rd_d_X12_needs_29 rfl (fun h3 => ?_) (fun h3 => ?_)
      · refine kr_iinc (v := k + 1) (lv' := [(2, .int (k + 1)), (0, .ref 118), (1, .int a)]) 0 rd_d_X12_needs_34 rfl rfl (by decide) rfl ?_
        refine kr_goto (tgt := 17) rd_d_X12_needs_37 rfl ?_
        rw [ax_l_ndM_succ, ax_s_ndM, if_neg h1, if_pos h3]
        exact ih (j + 1) (k + 1) (ax_inc ek (by omega)) (by omega)
      · refine kr_iload_n 0 rd_d_X12_needs_32 rfl ?_
        exact kr_ireturn rd_d_X12_needs_33 (ty := .int) rfl rfl ⟨by rw [ax_l_ndM_succ, ax_s_ndM, if_neg h1, if_neg h3], rfl⟩
def ax_f_neX (m : Nat → Nat → Int32) (a : Int32) : Int32 := if (ax_f_has m a) = 0 then (-1) else ax_l_ndX m a 12 0
theorem ax_neX (G : sx_G0 g L xs z9 hd_C ex_mt) {σ : am_S} (hS : ax_S σ) (a : Int32) : am_K g 4 tX11_needs.1 0 0 0 (lv_args 0 [.ref 0, .int a]) [] σ (ax_R (ax_f_neX σ.2.1 a) σ) := by
  refine kr_aload_n 0 rd_d_X11_needs_0 rfl ?_
  refine kr_getf G.1 (rd_FL rd_k_X11_needs_1).1 rd_d_X11_needs_1 (hS.1 0 (.inl 11) rfl) (v := .ref 4) (by unfold am_fa; rw [(rd_FL rd_k_X11_needs_1).2]; exact hS.2 0 2 4 rfl) ?_
  refine kr_iload_n 1 rd_d_X11_needs_4 rfl ?_
  refine rd_call G (T2 := tX9_has) rfl rd_d_X11_needs_5 rd_k_X11_needs_5 rfl (hS.1 4 (.inl 9) rfl) (as := [.int a]) (st := []) rfl (Nat.le_of_ble_eq_true rfl) rfl (Nat.le_of_ble_eq_true rfl) (d1 := 1) (by decide) (fun _ h => by cases h.1) (ax_has G hS a) ?_
  intro v1 σ1 ⟨hv1, hs1⟩
  cases hv1
  rw [hs1]
  refine kr_if_ne (tgt := 13) rd_d_X11_needs_8 rfl (fun h2 => ?_) (fun h2 => ?_)
  · refine kr_iconst (v := 0) rd_d_X11_needs_13 (by decide) ?_
    refine kr_istore_n (lv' := [(2, .int 0), (0, .ref 0), (1, .int a)]) rd_d_X11_needs_14 (by decide) rfl ?_
    rw [ax_f_neX, if_neg h2]
    exact kr_less (by decide) (Nat.le_refl _) (Nat.le_refl _) (ax_lo_ndX G hS a 12 0 0 rfl rfl)
  · refine kr_iconst (v := (-1)) rd_d_X11_needs_11 (by decide) ?_
    exact kr_ireturn rd_d_X11_needs_12 (ty := .int) rfl rfl ⟨by rw [ax_f_neX, if_pos h2], rfl⟩
def ax_f_neM (s : Nat → Int32) (a : Int32) : Int32 := if (ax_f_win (s) a) = 0 then (-1) else ax_l_ndM (s) a 12 0
theorem ax_neM (G : sx_G0 g L xs z9 hd_C ex_mt) {σ : am_S} (hS : ax_S σ) (a : Int32) (h1 : pl_B (σ.2.1 120)) : am_K g 4 tX12_needs.1 0 0 0 (lv_args 0 [.ref 118, .int a]) [] σ (fun r _ => r = some (some (.int (ax_f_neM (σ.2.1 120) a)))) := by
  refine ax_thr G hS rd_d_X12_needs_0 rd_d_X12_needs_1 rd_d_X12_needs_2 rd_k_X12_needs_2 rfl ?_
  intro τ hT hm hm8
  have e120 : σ.2.1 120 = τ.2.1 120 := funext fun k => (hm 120 k (by decide)).symm
  have hb := e120 ▸ h1
  refine kr_aload_n 0 rd_d_X12_needs_5 rfl ?_
  refine kr_iload_n 1 rd_d_X12_needs_6 rfl ?_
  refine rd_call G (T2 := tX12_isWindow) rfl rd_d_X12_needs_7 rd_k_X12_needs_7 rfl (hT.1 118 (.inl 12) rfl) (as := [.int a]) (st := []) rfl (Nat.le_of_ble_eq_true rfl) rfl (Nat.le_of_ble_eq_true rfl) (d1 := 2) (by decide) (fun _ h => by cases h.1) (ax_win G hT a) ?_
  intro v1 σ1 ⟨hv1, hs1⟩
  cases hv1
  rw [hs1]
  refine kr_if_ne (tgt := 15) rd_d_X12_needs_10 rfl (fun h2 => ?_) (fun h2 => ?_)
  · refine kr_iconst (v := 0) rd_d_X12_needs_15 (by decide) ?_
    refine kr_istore_n (lv' := [(2, .int 0), (0, .ref 118), (1, .int a)]) rd_d_X12_needs_16 (by decide) rfl ?_
    refine kr_mono ?_ (kr_less (d := 4) (by decide) (Nat.le_refl _) (Nat.le_refl _) (ax_lo_ndM G hT a (ax_win10 hb h2) 12 0 0 rfl rfl))
    exact fun r σ' h => h.1.trans (by rw [e120, ax_f_neM, if_neg h2])
  · refine kr_iconst (v := (-1)) rd_d_X12_needs_13 (by decide) ?_
    exact kr_ireturn rd_d_X12_needs_14 (ty := .int) rfl rfl (by rw [e120, ax_f_neM, if_pos h2])
theorem nd_eq {m : Nat → Nat → Int32} {s : Nat → Int32} (h : pl_R m 4 s) (b : pl_B s) {a : Int32} (ha : ¬ ax_f_win s a = 0) : ∀ (f : Nat) (k : Int32), ax_l_ndX m a f k = ax_l_ndM s a f k := by
  intro f
  induction f with
  | zero =>
    intro k
    rw [ax_l_ndX_zero, ax_l_ndM_zero, ax_s_ndX, ax_s_ndM, fair_eq h b ha]
  | succ f ih =>
    intro k
    rw [ax_l_ndX_succ, ax_l_ndM_succ, ax_s_ndX, ax_s_ndM, fair_eq h b ha, ih]
theorem ne_eq {m : Nat → Nat → Int32} {s : Nat → Int32} (h : pl_R m 4 s) (b : pl_B s) (a : Int32) : ax_f_neX m a = ax_f_neM s a := by
  rw [ax_f_neX, ax_f_neM, ax_hasE h b]
  by_cases ha : ax_f_win s a = 0
  · rw [if_pos ha, if_pos ha]
  · rw [if_neg ha, if_neg ha, nd_eq h b ha]
end AXX
