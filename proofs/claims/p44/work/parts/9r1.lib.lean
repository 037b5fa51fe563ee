/-! exact answers (rows written by a program) -/
theorem ax_inc {k : Int32} {j : Nat} (h : k.toInt = (j : Int)) (hj : j < 100000) : (k + 1).toInt = ((j + 1 : Nat) : Int) := by
  have z1 : (1 : Int32).toInt = 1 := rfl
  rw [sx_addI k 1 (by show (-2147483648 : Int) ≤ _; omega) (by show _ ≤ (2147483647 : Int); omega)]
  omega
theorem ax_ixn {c w : Int32} {C : Nat} (hc : c.toInt = C) (hC : C < 1000) (hw : 0 ≤ w.toInt ∧ w.toInt < 1000) : (c + w).toInt = ((C + w.toInt.toNat : Nat) : Int) := by
  rw [sx_addI c w (by show (-2147483648 : Int) ≤ _; omega) (by show _ ≤ (2147483647 : Int); omega)]
  omega
theorem ax_lkc {a o df : Int} {r : List (Int × Int)} {x A : Int32} (hA : A.toInt = a) (h : ¬ x = A) : Op.lookupswitch.offset ((a, o) :: r) df x.toInt = Op.lookupswitch.offset r df x.toInt := by
  rw [Op.lookupswitch.offset_cons, if_neg (fun e => h (Int32.toInt_inj.mp (by rw [hA, ← e])))]
theorem ax_dec {k : Int32} {f : Nat} (h : k.toInt = ((f + 1 : Nat) : Int) - 1) : (k + (-1)).toInt = (f : Int) - 1 := by
  have z1 : ((-1 : Int32)).toInt = -1 := rfl
  have := Int32.toInt_lt k
  rw [sx_addI k (-1) (by show (-2147483648 : Int) ≤ _; omega) (by show _ ≤ (2147483647 : Int); omega)]
  omega
theorem ax_dec0 {k : Int32} {f : Nat} (h : k.toInt = ((f + 1 : Nat) : Int)) : (k + (-1)).toInt = (f : Int) := by
  have z1 : ((-1 : Int32)).toInt = -1 := rfl
  have := Int32.toInt_lt k
  rw [sx_addI k (-1) (by show (-2147483648 : Int) ≤ _; omega) (by show _ ≤ (2147483647 : Int); omega)]
  omega
def ax_f_max (x y : Int32) : Int32 := if x < y then y else x
theorem ax_isIn_b (a b c : Int32) : narrow .boolean (.int (ax_f_isIn a b c)) = .int (ax_f_isIn a b c) := by
  rw [ax_f_isIn]
  split
  · rfl
  · split <;> rfl
theorem ax_ixc {w : Int32} {n : Nat} (h : w.toInt = (n : Int)) : w.toInt = ((w.toInt.toNat : Nat) : Int) := by omega
theorem rd_d_X9_has_0 : decode tX9_has.1.2.1 0 = .ok (.iload_n 1, 1) := by decide +kernel
theorem rd_d_X9_has_1 : decode tX9_has.1.2.1 1 = .ok (.ifCond .lt 15, 3) := by decide +kernel
theorem rd_d_X9_has_4 : decode tX9_has.1.2.1 4 = .ok (.iload_n 1, 1) := by decide +kernel
theorem rd_d_X9_has_5 : decode tX9_has.1.2.1 5 = .ok (.aload_n 0, 1) := by decide +kernel
theorem rd_d_X9_has_6 : decode tX9_has.1.2.1 6 = .ok (.getfield 39, 3) := by decide +kernel
theorem rd_k_X9_has_6 : ex_lk ex_mt tX9_has 6 (.getfield 39) [9, 7, 0, 65656] = true := by decide +kernel
theorem rd_d_X9_has_9 : decode tX9_has.1.2.1 9 = .ok (.if_icmp .ge 7, 3) := by decide +kernel
theorem rd_d_X9_has_12 : decode tX9_has.1.2.1 12 = .ok (.iconst 1, 1) := by decide +kernel
theorem rd_d_X9_has_13 : decode tX9_has.1.2.1 13 = .ok (.goto 4, 3) := by decide +kernel
theorem rd_d_X9_has_16 : decode tX9_has.1.2.1 16 = .ok (.iconst 0, 1) := by decide +kernel
theorem rd_d_X9_has_17 : decode tX9_has.1.2.1 17 = .ok (.ireturn, 1) := by decide +kernel
theorem rd_d_X12_isWindow_0 : decode tX12_isWindow.1.2.1 0 = .ok (.iload_n 1, 1) := by decide +kernel
theorem rd_d_X12_isWindow_1 : decode tX12_isWindow.1.2.1 1 = .ok (.iconst 0, 1) := by decide +kernel
theorem rd_d_X12_isWindow_2 : decode tX12_isWindow.1.2.1 2 = .ok (.aload_n 0, 1) := by decide +kernel
theorem rd_d_X12_isWindow_3 : decode tX12_isWindow.1.2.1 3 = .ok (.getfield 33, 3) := by decide +kernel
theorem rd_k_X12_isWindow_3 : ex_lk ex_mt tX12_isWindow 3 (.getfield 33) [12, 6, 2, 458773] = true := by decide +kernel
theorem rd_d_X12_isWindow_6 : decode tX12_isWindow.1.2.1 6 = .ok (.iconst 0, 1) := by decide +kernel
theorem rd_d_X12_isWindow_7 : decode tX12_isWindow.1.2.1 7 = .ok (.iaload, 1) := by decide +kernel
theorem rd_d_X12_isWindow_8 : decode tX12_isWindow.1.2.1 8 = .ok (.iconst 1, 1) := by decide +kernel
theorem rd_d_X12_isWindow_9 : decode tX12_isWindow.1.2.1 9 = .ok (.isub, 1) := by decide +kernel
theorem rd_d_X12_isWindow_10 : decode tX12_isWindow.1.2.1 10 = .ok (.invokestatic 134, 3) := by decide +kernel
theorem rd_k_X12_isWindow_10 : ex_lk ex_mt tX12_isWindow 10 (.invokestatic 134) [0, 119, 458953] = true := by decide +kernel
theorem rd_d_X12_isWindow_13 : decode tX12_isWindow.1.2.1 13 = .ok (.ireturn, 1) := by decide +kernel
theorem rd_d_X9_weightFrom_0 : decode tX9_weightFrom.1.2.1 0 = .ok (.iconst 0, 1) := by decide +kernel
theorem rd_d_X9_weightFrom_1 : decode tX9_weightFrom.1.2.1 1 = .ok (.istore_n 2, 1) := by decide +kernel
theorem rd_d_X9_weightFrom_2 : decode tX9_weightFrom.1.2.1 2 = .ok (.iconst 0, 1) := by decide +kernel
theorem rd_d_X9_weightFrom_3 : decode tX9_weightFrom.1.2.1 3 = .ok (.istore_n 3, 1) := by decide +kernel
theorem rd_d_X9_weightFrom_4 : decode tX9_weightFrom.1.2.1 4 = .ok (.iload_n 3, 1) := by decide +kernel
theorem rd_d_X9_weightFrom_5 : decode tX9_weightFrom.1.2.1 5 = .ok (.aload_n 0, 1) := by decide +kernel
theorem rd_d_X9_weightFrom_6 : decode tX9_weightFrom.1.2.1 6 = .ok (.getfield 43, 3) := by decide +kernel
theorem rd_k_X9_weightFrom_6 : ex_lk ex_mt tX9_weightFrom 6 (.getfield 43) [9, 8, 0, 65660] = true := by decide +kernel
theorem rd_d_X9_weightFrom_9 : decode tX9_weightFrom.1.2.1 9 = .ok (.if_icmp .ge 46, 3) := by decide +kernel
theorem rd_d_X9_weightFrom_12 : decode tX9_weightFrom.1.2.1 12 = .ok (.iload_n 3, 1) := by decide +kernel
theorem rd_d_X9_weightFrom_13 : decode tX9_weightFrom.1.2.1 13 = .ok (.aload_n 0, 1) := by decide +kernel
theorem rd_d_X9_weightFrom_14 : decode tX9_weightFrom.1.2.1 14 = .ok (.getfield 24, 3) := by decide +kernel
theorem rd_k_X9_weightFrom_14 : ex_lk ex_mt tX9_weightFrom 14 (.getfield 24) [9, 4, 2, 65653] = true := by decide +kernel
theorem rd_d_X9_weightFrom_17 : decode tX9_weightFrom.1.2.1 17 = .ok (.arraylength, 1) := by decide +kernel
theorem rd_d_X9_weightFrom_18 : decode tX9_weightFrom.1.2.1 18 = .ok (.if_icmp .ge 37, 3) := by decide +kernel
theorem rd_d_X9_weightFrom_21 : decode tX9_weightFrom.1.2.1 21 = .ok (.iload_n 3, 1) := by decide +kernel
theorem rd_d_X9_weightFrom_22 : decode tX9_weightFrom.1.2.1 22 = .ok (.aload_n 0, 1) := by decide +kernel
theorem rd_d_X9_weightFrom_23 : decode tX9_weightFrom.1.2.1 23 = .ok (.getfield 27, 3) := by decide +kernel
theorem rd_k_X9_weightFrom_23 : ex_lk ex_mt tX9_weightFrom 23 (.getfield 27) [9, 5, 2, 65654] = true := by decide +kernel
theorem rd_d_X9_weightFrom_26 : decode tX9_weightFrom.1.2.1 26 = .ok (.arraylength, 1) := by decide +kernel
theorem rd_d_X9_weightFrom_27 : decode tX9_weightFrom.1.2.1 27 = .ok (.if_icmp .ge 28, 3) := by decide +kernel
theorem rd_d_X9_weightFrom_30 : decode tX9_weightFrom.1.2.1 30 = .ok (.aload_n 0, 1) := by decide +kernel
theorem rd_d_X9_weightFrom_31 : decode tX9_weightFrom.1.2.1 31 = .ok (.getfield 24, 3) := by decide +kernel
theorem rd_k_X9_weightFrom_31 : ex_lk ex_mt tX9_weightFrom 31 (.getfield 24) [9, 4, 2, 65653] = true := by decide +kernel
theorem rd_d_X9_weightFrom_34 : decode tX9_weightFrom.1.2.1 34 = .ok (.iload_n 3, 1) := by decide +kernel
theorem rd_d_X9_weightFrom_35 : decode tX9_weightFrom.1.2.1 35 = .ok (.iaload, 1) := by decide +kernel
theorem rd_d_X9_weightFrom_36 : decode tX9_weightFrom.1.2.1 36 = .ok (.iload_n 1, 1) := by decide +kernel
theorem rd_d_X9_weightFrom_37 : decode tX9_weightFrom.1.2.1 37 = .ok (.if_icmp .lt 12, 3) := by decide +kernel
theorem rd_d_X9_weightFrom_40 : decode tX9_weightFrom.1.2.1 40 = .ok (.iload_n 2, 1) := by decide +kernel
theorem rd_d_X9_weightFrom_41 : decode tX9_weightFrom.1.2.1 41 = .ok (.aload_n 0, 1) := by decide +kernel
theorem rd_d_X9_weightFrom_42 : decode tX9_weightFrom.1.2.1 42 = .ok (.getfield 27, 3) := by decide +kernel
theorem rd_k_X9_weightFrom_42 : ex_lk ex_mt tX9_weightFrom 42 (.getfield 27) [9, 5, 2, 65654] = true := by decide +kernel
theorem rd_d_X9_weightFrom_45 : decode tX9_weightFrom.1.2.1 45 = .ok (.iload_n 3, 1) := by decide +kernel
theorem rd_d_X9_weightFrom_46 : decode tX9_weightFrom.1.2.1 46 = .ok (.iaload, 1) := by decide +kernel
theorem rd_d_X9_weightFrom_47 : decode tX9_weightFrom.1.2.1 47 = .ok (.iadd, 1) := by decide +kernel
theorem rd_d_X9_weightFrom_48 : decode tX9_weightFrom.1.2.1 48 = .ok (.istore_n 2, 1) := by decide +kernel
theorem rd_d_X9_weightFrom_49 : decode tX9_weightFrom.1.2.1 49 = .ok (.iinc 3 1, 3) := by decide +kernel
theorem rd_d_X9_weightFrom_52 : decode tX9_weightFrom.1.2.1 52 = .ok (.goto (-48), 3) := by decide +kernel
theorem rd_d_X9_weightFrom_55 : decode tX9_weightFrom.1.2.1 55 = .ok (.iload_n 2, 1) := by decide +kernel
theorem rd_d_X9_weightFrom_56 : decode tX9_weightFrom.1.2.1 56 = .ok (.ireturn, 1) := by decide +kernel
theorem rd_d_X12_standing_0 : decode tX12_standing.1.2.1 0 = .ok (.iconst 0, 1) := by decide +kernel
theorem rd_d_X12_standing_1 : decode tX12_standing.1.2.1 1 = .ok (.istore_n 2, 1) := by decide +kernel
theorem rd_d_X12_standing_2 : decode tX12_standing.1.2.1 2 = .ok (.iconst 0, 1) := by decide +kernel
theorem rd_d_X12_standing_3 : decode tX12_standing.1.2.1 3 = .ok (.istore_n 3, 1) := by decide +kernel
theorem rd_d_X12_standing_4 : decode tX12_standing.1.2.1 4 = .ok (.iload_n 3, 1) := by decide +kernel
theorem rd_d_X12_standing_5 : decode tX12_standing.1.2.1 5 = .ok (.aload_n 0, 1) := by decide +kernel
theorem rd_d_X12_standing_6 : decode tX12_standing.1.2.1 6 = .ok (.invokevirtual 205, 3) := by decide +kernel
theorem rd_k_X12_standing_6 : ex_lk ex_mt tX12_standing 6 (.invokevirtual 205) [0, 171, 524299] = true := by decide +kernel
theorem rd_d_X12_standing_9 : decode tX12_standing.1.2.1 9 = .ok (.if_icmp .ge 30, 3) := by decide +kernel
theorem rd_d_X12_standing_12 : decode tX12_standing.1.2.1 12 = .ok (.iload_n 2, 1) := by decide +kernel
theorem rd_d_X12_standing_13 : decode tX12_standing.1.2.1 13 = .ok (.aload_n 0, 1) := by decide +kernel
theorem rd_d_X12_standing_14 : decode tX12_standing.1.2.1 14 = .ok (.iload_n 3, 1) := by decide +kernel
theorem rd_d_X12_standing_15 : decode tX12_standing.1.2.1 15 = .ok (.invokevirtual 208, 3) := by decide +kernel
theorem rd_k_X12_standing_15 : ex_lk ex_mt tX12_standing 15 (.invokevirtual 208) [0, 163, 524306] = true := by decide +kernel
theorem rd_d_X12_standing_18 : decode tX12_standing.1.2.1 18 = .ok (.iload_n 1, 1) := by decide +kernel
theorem rd_d_X12_standing_19 : decode tX12_standing.1.2.1 19 = .ok (.if_icmp .lt 11, 3) := by decide +kernel
theorem rd_d_X12_standing_22 : decode tX12_standing.1.2.1 22 = .ok (.aload_n 0, 1) := by decide +kernel
theorem rd_d_X12_standing_23 : decode tX12_standing.1.2.1 23 = .ok (.iload_n 3, 1) := by decide +kernel
theorem rd_d_X12_standing_24 : decode tX12_standing.1.2.1 24 = .ok (.invokevirtual 211, 3) := by decide +kernel
theorem rd_k_X12_standing_24 : ex_lk ex_mt tX12_standing 24 (.invokevirtual 211) [0, 185, 524310] = true := by decide +kernel
theorem rd_d_X12_standing_27 : decode tX12_standing.1.2.1 27 = .ok (.goto 4, 3) := by decide +kernel
theorem rd_d_X12_standing_30 : decode tX12_standing.1.2.1 30 = .ok (.iconst 0, 1) := by decide +kernel
theorem rd_d_X12_standing_31 : decode tX12_standing.1.2.1 31 = .ok (.iadd, 1) := by decide +kernel
theorem rd_d_X12_standing_32 : decode tX12_standing.1.2.1 32 = .ok (.istore_n 2, 1) := by decide +kernel
theorem rd_d_X12_standing_33 : decode tX12_standing.1.2.1 33 = .ok (.iinc 3 1, 3) := by decide +kernel
theorem rd_d_X12_standing_36 : decode tX12_standing.1.2.1 36 = .ok (.goto (-32), 3) := by decide +kernel
theorem rd_d_X12_standing_39 : decode tX12_standing.1.2.1 39 = .ok (.iload_n 2, 1) := by decide +kernel
theorem rd_d_X12_standing_40 : decode tX12_standing.1.2.1 40 = .ok (.ireturn, 1) := by decide +kernel
theorem rd_d_X9_settingOf_0 : decode tX9_settingOf.1.2.1 0 = .ok (.aload_n 0, 1) := by decide +kernel
theorem rd_d_X9_settingOf_1 : decode tX9_settingOf.1.2.1 1 = .ok (.getfield 30, 3) := by decide +kernel
theorem rd_k_X9_settingOf_1 : ex_lk ex_mt tX9_settingOf 1 (.getfield 30) [9, 6, 2, 65655] = true := by decide +kernel
theorem rd_d_X9_settingOf_4 : decode tX9_settingOf.1.2.1 4 = .ok (.iload_n 1, 1) := by decide +kernel
theorem rd_d_X9_settingOf_5 : decode tX9_settingOf.1.2.1 5 = .ok (.invokestatic 118, 3) := by decide +kernel
theorem rd_k_X9_settingOf_5 : ex_lk ex_mt tX9_settingOf 5 (.invokestatic 118) [0, 32, 196745] = true := by decide +kernel
theorem rd_d_X9_settingOf_8 : decode tX9_settingOf.1.2.1 8 = .ok (.ireturn, 1) := by decide +kernel
theorem rd_d_X11_count_0 : decode tX11_count.1.2.1 0 = .ok (.iload_n 1, 1) := by decide +kernel
theorem rd_d_X11_count_1 : decode tX11_count.1.2.1 1 = .ok (.lookupswitch 76 #[(0, 43), (1, 51), (2, 59), (11, 68)], 43) := by decide +kernel
theorem rd_d_X11_count_44 : decode tX11_count.1.2.1 44 = .ok (.aload_n 0, 1) := by decide +kernel
theorem rd_d_X11_count_45 : decode tX11_count.1.2.1 45 = .ok (.getfield 28, 3) := by decide +kernel
theorem rd_k_X11_count_45 : ex_lk ex_mt tX11_count 45 (.getfield 28) [11, 2, 2, 131261] = true := by decide +kernel
theorem rd_d_X11_count_48 : decode tX11_count.1.2.1 48 = .ok (.getfield 291, 3) := by decide +kernel
theorem rd_k_X11_count_48 : ex_lk ex_mt tX11_count 48 (.getfield 291) [9, 7, 0, 65659] = true := by decide +kernel
theorem rd_d_X11_count_51 : decode tX11_count.1.2.1 51 = .ok (.ireturn, 1) := by decide +kernel
theorem rd_d_X11_count_52 : decode tX11_count.1.2.1 52 = .ok (.aload_n 0, 1) := by decide +kernel
theorem rd_d_X11_count_53 : decode tX11_count.1.2.1 53 = .ok (.getfield 28, 3) := by decide +kernel
theorem rd_k_X11_count_53 : ex_lk ex_mt tX11_count 53 (.getfield 28) [11, 2, 2, 131261] = true := by decide +kernel
theorem rd_d_X11_count_56 : decode tX11_count.1.2.1 56 = .ok (.getfield 179, 3) := by decide +kernel
theorem rd_k_X11_count_56 : ex_lk ex_mt tX11_count 56 (.getfield 179) [9, 8, 0, 65661] = true := by decide +kernel
theorem rd_d_X11_count_59 : decode tX11_count.1.2.1 59 = .ok (.ireturn, 1) := by decide +kernel
theorem rd_d_X11_count_60 : decode tX11_count.1.2.1 60 = .ok (.aload_n 0, 1) := by decide +kernel
theorem rd_d_X11_count_61 : decode tX11_count.1.2.1 61 = .ok (.getfield 28, 3) := by decide +kernel
theorem rd_k_X11_count_61 : ex_lk ex_mt tX11_count 61 (.getfield 28) [11, 2, 2, 131261] = true := by decide +kernel
theorem rd_d_X11_count_64 : decode tX11_count.1.2.1 64 = .ok (.iconst 0, 1) := by decide +kernel
theorem rd_d_X11_count_65 : decode tX11_count.1.2.1 65 = .ok (.invokevirtual 374, 3) := by decide +kernel
theorem rd_k_X11_count_65 : ex_lk ex_mt tX11_count 65 (.invokevirtual 374) [0, 314, 393297] = true := by decide +kernel
theorem rd_d_X11_count_68 : decode tX11_count.1.2.1 68 = .ok (.ireturn, 1) := by decide +kernel
theorem rd_d_X11_count_69 : decode tX11_count.1.2.1 69 = .ok (.aload_n 0, 1) := by decide +kernel
theorem rd_d_X11_count_70 : decode tX11_count.1.2.1 70 = .ok (.getfield 12, 3) := by decide +kernel
theorem rd_k_X11_count_70 : ex_lk ex_mt tX11_count 70 (.getfield 12) [11, 0, 2, 131259] = true := by decide +kernel
theorem rd_d_X11_count_73 : decode tX11_count.1.2.1 73 = .ok (.getfield 113, 3) := by decide +kernel
theorem rd_k_X11_count_73 : ex_lk ex_mt tX11_count 73 (.getfield 113) [10, 1, 0, 65577] = true := by decide +kernel
theorem rd_d_X11_count_76 : decode tX11_count.1.2.1 76 = .ok (.ireturn, 1) := by decide +kernel
theorem rd_d_X11_count_77 : decode tX11_count.1.2.1 77 = .ok (.iload_n 1, 1) := by decide +kernel
theorem rd_d_X11_count_78 : decode tX11_count.1.2.1 78 = .ok (.iconst 3, 1) := by decide +kernel
theorem rd_d_X11_count_79 : decode tX11_count.1.2.1 79 = .ok (.if_icmp .lt 22, 3) := by decide +kernel
theorem rd_d_X11_count_82 : decode tX11_count.1.2.1 82 = .ok (.iload_n 1, 1) := by decide +kernel
theorem rd_d_X11_count_83 : decode tX11_count.1.2.1 83 = .ok (.bipush 10, 2) := by decide +kernel
theorem rd_d_X11_count_85 : decode tX11_count.1.2.1 85 = .ok (.if_icmp .gt 16, 3) := by decide +kernel
theorem rd_d_X11_count_88 : decode tX11_count.1.2.1 88 = .ok (.aload_n 0, 1) := by decide +kernel
theorem rd_d_X11_count_89 : decode tX11_count.1.2.1 89 = .ok (.getfield 28, 3) := by decide +kernel
theorem rd_k_X11_count_89 : ex_lk ex_mt tX11_count 89 (.getfield 28) [11, 2, 2, 131261] = true := by decide +kernel
theorem rd_d_X11_count_92 : decode tX11_count.1.2.1 92 = .ok (.iload_n 1, 1) := by decide +kernel
theorem rd_d_X11_count_93 : decode tX11_count.1.2.1 93 = .ok (.iconst 3, 1) := by decide +kernel
theorem rd_d_X11_count_94 : decode tX11_count.1.2.1 94 = .ok (.isub, 1) := by decide +kernel
theorem rd_d_X11_count_95 : decode tX11_count.1.2.1 95 = .ok (.invokevirtual 448, 3) := by decide +kernel
theorem rd_k_X11_count_95 : ex_lk ex_mt tX11_count 95 (.invokevirtual 448) [0, 309, 393298] = true := by decide +kernel
theorem rd_d_X11_count_98 : decode tX11_count.1.2.1 98 = .ok (.goto 4, 3) := by decide +kernel
theorem rd_d_X11_count_101 : decode tX11_count.1.2.1 101 = .ok (.iconst (-1), 1) := by decide +kernel
theorem rd_d_X11_count_102 : decode tX11_count.1.2.1 102 = .ok (.ireturn, 1) := by decide +kernel
theorem rd_d_X12_count_0 : decode tX12_count.1.2.1 0 = .ok (.aload_n 0, 1) := by decide +kernel
theorem rd_d_X12_count_1 : decode tX12_count.1.2.1 1 = .ok (.iconst 0, 1) := by decide +kernel
theorem rd_d_X12_count_2 : decode tX12_count.1.2.1 2 = .ok (.putfield 1, 3) := by decide +kernel
theorem rd_k_X12_count_2 : ex_lk ex_mt tX12_count 2 (.putfield 1) [12, 0, 0, 458767] = true := by decide +kernel
theorem rd_d_X12_count_5 : decode tX12_count.1.2.1 5 = .ok (.iload_n 1, 1) := by decide +kernel
theorem rd_d_X12_count_6 : decode tX12_count.1.2.1 6 = .ok (.lookupswitch 65 #[(0, 42), (1, 49), (2, 54), (11, 60)], 42) := by decide +kernel
theorem rd_d_X12_count_48 : decode tX12_count.1.2.1 48 = .ok (.aload_n 0, 1) := by decide +kernel
theorem rd_d_X12_count_49 : decode tX12_count.1.2.1 49 = .ok (.getfield 33, 3) := by decide +kernel
theorem rd_k_X12_count_49 : ex_lk ex_mt tX12_count 49 (.getfield 33) [12, 6, 2, 458773] = true := by decide +kernel
theorem rd_d_X12_count_52 : decode tX12_count.1.2.1 52 = .ok (.iconst 0, 1) := by decide +kernel
theorem rd_d_X12_count_53 : decode tX12_count.1.2.1 53 = .ok (.iaload, 1) := by decide +kernel
theorem rd_d_X12_count_54 : decode tX12_count.1.2.1 54 = .ok (.ireturn, 1) := by decide +kernel
theorem rd_d_X12_count_55 : decode tX12_count.1.2.1 55 = .ok (.aload_n 0, 1) := by decide +kernel
theorem rd_d_X12_count_56 : decode tX12_count.1.2.1 56 = .ok (.invokevirtual 205, 3) := by decide +kernel
theorem rd_k_X12_count_56 : ex_lk ex_mt tX12_count 56 (.invokevirtual 205) [0, 171, 524299] = true := by decide +kernel
theorem rd_d_X12_count_59 : decode tX12_count.1.2.1 59 = .ok (.ireturn, 1) := by decide +kernel
theorem rd_d_X12_count_60 : decode tX12_count.1.2.1 60 = .ok (.aload_n 0, 1) := by decide +kernel
theorem rd_d_X12_count_61 : decode tX12_count.1.2.1 61 = .ok (.iconst 0, 1) := by decide +kernel
theorem rd_d_X12_count_62 : decode tX12_count.1.2.1 62 = .ok (.invokevirtual 276, 3) := by decide +kernel
theorem rd_k_X12_count_62 : ex_lk ex_mt tX12_count 62 (.invokevirtual 276) [0, 172, 524429] = true := by decide +kernel
theorem rd_d_X12_count_65 : decode tX12_count.1.2.1 65 = .ok (.ireturn, 1) := by decide +kernel
theorem rd_d_X12_count_66 : decode tX12_count.1.2.1 66 = .ok (.aload_n 0, 1) := by decide +kernel
theorem rd_d_X12_count_67 : decode tX12_count.1.2.1 67 = .ok (.getfield 7, 3) := by decide +kernel
theorem rd_k_X12_count_67 : ex_lk ex_mt tX12_count 67 (.getfield 7) [12, 2, 0, 458769] = true := by decide +kernel
theorem rd_d_X12_count_70 : decode tX12_count.1.2.1 70 = .ok (.ireturn, 1) := by decide +kernel
theorem rd_d_X12_count_71 : decode tX12_count.1.2.1 71 = .ok (.iload_n 1, 1) := by decide +kernel
theorem rd_d_X12_count_72 : decode tX12_count.1.2.1 72 = .ok (.iconst 3, 1) := by decide +kernel
theorem rd_d_X12_count_73 : decode tX12_count.1.2.1 73 = .ok (.bipush 10, 2) := by decide +kernel
theorem rd_d_X12_count_75 : decode tX12_count.1.2.1 75 = .ok (.invokestatic 134, 3) := by decide +kernel
theorem rd_k_X12_count_75 : ex_lk ex_mt tX12_count 75 (.invokestatic 134) [0, 119, 458953] = true := by decide +kernel
theorem rd_d_X12_count_78 : decode tX12_count.1.2.1 78 = .ok (.ifCond .eq 17, 3) := by decide +kernel
theorem rd_d_X12_count_81 : decode tX12_count.1.2.1 81 = .ok (.aload_n 0, 1) := by decide +kernel
theorem rd_d_X12_count_82 : decode tX12_count.1.2.1 82 = .ok (.getfield 33, 3) := by decide +kernel
theorem rd_k_X12_count_82 : ex_lk ex_mt tX12_count 82 (.getfield 33) [12, 6, 2, 458773] = true := by decide +kernel
theorem rd_d_X12_count_85 : decode tX12_count.1.2.1 85 = .ok (.bipush 54, 2) := by decide +kernel
theorem rd_d_X12_count_87 : decode tX12_count.1.2.1 87 = .ok (.iload_n 1, 1) := by decide +kernel
theorem rd_d_X12_count_88 : decode tX12_count.1.2.1 88 = .ok (.iadd, 1) := by decide +kernel
theorem rd_d_X12_count_89 : decode tX12_count.1.2.1 89 = .ok (.iconst 3, 1) := by decide +kernel
theorem rd_d_X12_count_90 : decode tX12_count.1.2.1 90 = .ok (.isub, 1) := by decide +kernel
theorem rd_d_X12_count_91 : decode tX12_count.1.2.1 91 = .ok (.iaload, 1) := by decide +kernel
theorem rd_d_X12_count_92 : decode tX12_count.1.2.1 92 = .ok (.goto 4, 3) := by decide +kernel
theorem rd_d_X12_count_95 : decode tX12_count.1.2.1 95 = .ok (.iconst (-1), 1) := by decide +kernel
theorem rd_d_X12_count_96 : decode tX12_count.1.2.1 96 = .ok (.ireturn, 1) := by decide +kernel
section AXX
variable {g : am_C} {L : Nat} {xs : Nat → Int32}
def pl_Bm (σ : am_S) : Prop := (0 ≤ (σ.2.1 4 7).toInt ∧ (σ.2.1 4 7).toInt ≤ 10) ∧ (0 ≤ (σ.2.1 4 8).toInt ∧ (σ.2.1 4 8).toInt ≤ 6) ∧ pl_B (σ.2.1 120)
theorem pl_Bm_of {σe σ : am_S} {m : Nat} (hM : sx_M z9 hd_C σe m 0 σ) : pl_Bm σ := ⟨hM.2.2.1 4 7 _ _ _ rfl, hM.2.2.1 4 8 _ _ _ rfl, (pl_BM hM).1⟩
def ax_f_has (m : Nat → Nat → Int32) (a : Int32) : Int32 := if a < 0 then 0 else if (m 4 7) ≤ a then 0 else 1
theorem ax_has (G : sx_G0 g L xs z9 hd_C ex_mt) {σ : am_S} (hS : ax_S σ) (a : Int32) : am_K g 1 tX9_has.1 0 0 0 (lv_args 0 [.ref 4, .int a]) [] σ (ax_R (ax_f_has σ.2.1 a) σ) := by
  refine kr_iload_n 1 rd_d_X9_has_0 rfl ?_
  refine kr_if_lt (tgt := 16) rd_d_X9_has_1 rfl (fun h1 => ?_) (fun h1 => ?_)
  · refine kr_iconst (v := 0) rd_d_X9_has_16 (by decide) ?_
    exact kr_ireturn rd_d_X9_has_17 (ty := .boolean) rfl rfl ⟨by rw [ax_f_has, if_pos h1], rfl⟩
  · refine kr_iload_n 1 rd_d_X9_has_4 rfl ?_
    refine kr_aload_n 0 rd_d_X9_has_5 rfl ?_
    refine kr_getf G.1 (rd_FL rd_k_X9_has_6).1 rd_d_X9_has_6 (hS.1 4 (.inl 9) rfl) (v := .int (σ.2.1 4 7)) (by unfold am_fa; rw [(rd_FL rd_k_X9_has_6).2]; rfl) ?_
    refine kr_icmp_ge (tgt := 16) rd_d_X9_has_9 rfl (fun h2 => ?_) (fun h2 => ?_)
    · refine kr_iconst (v := 0) rd_d_X9_has_16 (by decide) ?_
      exact kr_ireturn rd_d_X9_has_17 (ty := .boolean) rfl rfl ⟨by rw [ax_f_has, if_neg h1, if_pos h2], rfl⟩
    · refine kr_iconst (v := 1) rd_d_X9_has_12 (by decide) ?_
      refine kr_goto (tgt := 17) rd_d_X9_has_13 rfl ?_
      exact kr_ireturn rd_d_X9_has_17 (ty := .boolean) rfl rfl ⟨by rw [ax_f_has, if_neg h1, if_neg h2], rfl⟩
def ax_f_win (s : Nat → Int32) (a : Int32) : Int32 := ax_f_isIn a 0 ((s 0) - 1)
theorem ax_win (G : sx_G0 g L xs z9 hd_C ex_mt) {σ : am_S} (hS : ax_S σ) (a : Int32) : am_K g 2 tX12_isWindow.1 0 0 0 (lv_args 0 [.ref 118, .int a]) [] σ (ax_R (ax_f_win (σ.2.1 120) a) σ) := by
  refine kr_iload_n 1 rd_d_X12_isWindow_0 rfl ?_
  refine kr_iconst (v := 0) rd_d_X12_isWindow_1 (by decide) ?_
  refine kr_aload_n 0 rd_d_X12_isWindow_2 rfl ?_
  refine kr_getf G.1 (rd_FL rd_k_X12_isWindow_3).1 rd_d_X12_isWindow_3 (hS.1 118 (.inl 12) rfl) (v := .ref 120) (by unfold am_fa; rw [(rd_FL rd_k_X12_isWindow_3).2]; exact hS.2 118 6 120 rfl) ?_
  refine kr_iconst (v := 0) rd_d_X12_isWindow_6 (by decide) ?_
  refine kr_iald G.1 (n := 277) rd_d_X12_isWindow_7 (hS.1 120 (.inr (.int, 277)) rfl) (hd_in (n := 0) (by decide) (by decide)) ?_
  rw [hd_clamp (n := 0) (by decide)]
  refine kr_iconst (v := 1) rd_d_X12_isWindow_8 (by decide) ?_
  refine kr_isub rd_d_X12_isWindow_9 ?_
  refine rd_callS G (T2 := tX12_isIn) rfl rd_d_X12_isWindow_10 rd_k_X12_isWindow_10 rfl rfl (as := [.int a, .int 0, .int ((σ.2.1 120 0) - 1)]) (st := []) rfl (Nat.le_of_ble_eq_true rfl) rfl (Nat.le_of_ble_eq_true rfl) (d1 := 1) (by decide) (fun _ h => by cases h.1) (ax_isIn G hS a 0 ((σ.2.1 120 0) - 1)) ?_
  intro v1 σ1 ⟨hv1, hs1⟩
  cases hv1
  rw [hs1]
  exact kr_ireturn rd_d_X12_isWindow_13 (ty := .boolean) rfl (ax_isIn_b _ _ _) ⟨rfl, rfl⟩
theorem ax_winI {s : Nat → Int32} (b : pl_B s) {a : Int32} (h : ¬ ax_f_win s a = 0) : 0 ≤ a.toInt ∧ a.toInt < (s 0).toInt ∧ a.toInt < 10 := by
  have z0 : (0 : Int32).toInt = 0 := rfl
  have z1 : (1 : Int32).toInt = 1 := rfl
  obtain ⟨⟨b1, b2⟩, -⟩ := b
  have e := sx_subI (s 0) 1 (by show (-2147483648 : Int) ≤ _; omega) (by show _ ≤ (2147483647 : Int); omega)
  rw [ax_f_win, ax_f_isIn] at h
  split at h
  · exact absurd rfl h
  · rename_i q1
    split at h
    · exact absurd rfl h
    · rename_i q2
      have g1 : ¬ a.toInt < 0 := fun q => q1 (Int32.lt_iff_toInt_lt.mpr (by omega))
      have g2 : ¬ (s 0 - 1).toInt < a.toInt := fun q => q2 (Int32.lt_iff_toInt_lt.mpr q)
      omega
theorem ax_win10 {s : Nat → Int32} (b : pl_B s) {a : Int32} (h : ¬ ax_f_win s a = 0) : 0 ≤ a.toInt ∧ a.toInt < 10 := ⟨(ax_winI b h).1, (ax_winI b h).2.2⟩
theorem pl_w {m : Nat → Nat → Int32} {o : Nat} {s : Nat → Int32} (h : pl_R m o s) : m o 7 = s 0 := Int32.toInt_inj.mp h.1
theorem ax_hasE {m : Nat → Nat → Int32} {s : Nat → Int32} (h : pl_R m 4 s) (b : pl_B s) (a : Int32) : ax_f_has m a = ax_f_win s a := by
  have z0 : (0 : Int32).toInt = 0 := rfl
  have z1 : (1 : Int32).toInt = 1 := rfl
  have hw := pl_w h
  obtain ⟨⟨b1, b2⟩, -⟩ := b
  have e := sx_subI (s 0) 1 (by show (-2147483648 : Int) ≤ _; omega) (by show _ ≤ (2147483647 : Int); omega)
  rw [ax_f_has, ax_f_win, ax_f_isIn, hw]
  by_cases g1 : a < 0
  · rw [if_pos g1, if_pos g1]
  · rw [if_neg g1, if_neg g1]
    by_cases g2 : s 0 ≤ a
    · rw [if_pos g2, if_pos (Int32.lt_iff_toInt_lt.mpr (by have := Int32.le_iff_toInt_le.mp g2; omega))]
    · rw [if_neg g2, if_neg (fun q => g2 (Int32.le_iff_toInt_le.mpr (by have := Int32.lt_iff_toInt_lt.mp q; omega)))]
theorem ax_rowE {m : Nat → Nat → Int32} {s : Nat → Int32} (h : pl_R m 4 s) (b : pl_B s) {a : Int32} (ha : ¬ ax_f_win s a = 0) {r : Nat} (hr : r < 4) : ax_ent (m (5 + r)) 10 a = s (rc_bs r + a.toInt.toNat) := by
  obtain ⟨a1, a2, a3⟩ := ax_winI b ha
  rw [ax_ent_in (k := a.toInt.toNat) (by decide) (by omega) (by omega)]
  have := h.2.2.2 r (by omega) a.toInt.toNat (by rw [rc_c, if_pos hr]; omega)
  rw [show 4 + 1 + r = 5 + r by omega] at this
  exact this
theorem ax_setE {m : Nat → Nat → Int32} {s : Nat → Int32} (h : pl_R m 4 s) {a : Int32} {j : Nat} (e : a.toInt = (j : Int)) (hj : j < 8) : ax_ent (m 11) 8 a = s (54 + j) := by
  rw [ax_ent_in (k := j) (by decide) e hj]
  exact h.2.2.2 6 (by decide) j hj
def ax_s_wfX (m : Nat → Nat → Int32) (t : Int32) (rec : Int32 → Int32 → Int32) (k z : Int32) : Int32 := if (m 4 8) ≤ k then z else if (nI 6) ≤ k then z else if (nI 6) ≤ k then z else if (m 9 k.toInt.toNat) < t then rec (k + 1) z else rec (k + 1) (z + (m 10 k.toInt.toNat))
def ax_l_wfX (m : Nat → Nat → Int32) (t : Int32) : Nat → Int32 → Int32 → Int32
  | 0, k, z => ax_s_wfX m t (fun _ _ => 0) k z
  | f + 1, k, z => ax_s_wfX m t (ax_l_wfX m t f) k z
theorem ax_l_wfX_zero (m : Nat → Nat → Int32) (t : Int32) (k z : Int32) : ax_l_wfX m t 0 k z = ax_s_wfX m t (fun _ _ => 0) k z := rfl
theorem ax_l_wfX_succ (m : Nat → Nat → Int32) (t : Int32) (f : Nat) (k z : Int32) : ax_l_wfX m t (f + 1) k z = ax_s_wfX m t (ax_l_wfX m t f) k z := rfl
theorem ax_lo_wfX (G : sx_G0 g L xs z9 hd_C ex_mt) {σ : am_S} (hS : ax_S σ) (t : Int32) (hb : (σ.2.1 4 8).toInt ≤ 6) : ∀ (f j : Nat) (k z : Int32), k.toInt = (j : Int) → j + f = 6 → am_K g 1 tX9_weightFrom.1 0 0 4 [(3, .int k), (2, .int z), (0, .ref 4), (1, .int t)] [] σ (ax_R (ax_l_wfX σ.2.1 t f k z) σ) := by
  intro f
  induction f with
  | zero =>
    intro j k z ek hj
    refine kr_iload_n 0 rd_d_X9_weightFrom_4 rfl ?_
    refine kr_aload_n 2 rd_d_X9_weightFrom_5 rfl ?_
    refine kr_getf G.1 (rd_FL rd_k_X9_weightFrom_6).1 rd_d_X9_weightFrom_6 (hS.1 4 (.inl 9) rfl) (v := .int (σ.2.1 4 8)) (by unfold am_fa; rw [(rd_FL rd_k_X9_weightFrom_6).2]; rfl) ?_
    refine kr_icmp_ge (tgt := 55) rd_d_X9_weightFrom_9 rfl (fun h1 => ?_) (fun h1 => ?_)
    · refine kr_iload_n 1 rd_d_X9_weightFrom_55 rfl ?_
      exact kr_ireturn rd_d_X9_weightFrom_56 (ty := .int) rfl rfl ⟨by rw [ax_l_wfX_zero, ax_s_wfX, if_pos h1], rfl⟩
    · exact absurd (Int32.le_iff_toInt_le.mpr (by omega)) h1
  | succ f ih =>
    intro j k z ek hj
    refine kr_iload_n 0 rd_d_X9_weightFrom_4 rfl ?_
    refine kr_aload_n 2 rd_d_X9_weightFrom_5 rfl ?_
    refine kr_getf G.1 (rd_FL rd_k_X9_weightFrom_6).1 rd_d_X9_weightFrom_6 (hS.1 4 (.inl 9) rfl) (v := .int (σ.2.1 4 8)) (by unfold am_fa; rw [(rd_FL rd_k_X9_weightFrom_6).2]; rfl) ?_
    refine kr_icmp_ge (tgt := 55) rd_d_X9_weightFrom_9 rfl (fun h1 => ?_) (fun h1 => ?_)
    · refine kr_iload_n 1 rd_d_X9_weightFrom_55 rfl ?_
      exact kr_ireturn rd_d_X9_weightFrom_56 (ty := .int) rfl rfl ⟨by rw [ax_l_wfX_succ, ax_s_wfX, if_pos h1], rfl⟩
    · refine kr_iload_n 0 rd_d_X9_weightFrom_12 rfl ?_
      refine kr_aload_n 2 rd_d_X9_weightFrom_13 rfl ?_
      refine kr_getf G.1 (rd_FL rd_k_X9_weightFrom_14).1 rd_d_X9_weightFrom_14 (hS.1 4 (.inl 9) rfl) (v := .ref 9) (by unfold am_fa; rw [(rd_FL rd_k_X9_weightFrom_14).2]; exact hS.2 4 4 9 rfl) ?_
      refine kr_alenI G.1 (n := 6) rd_d_X9_weightFrom_17 (hS.1 9 (.inr (.int, 6)) rfl) ?_
      refine kr_icmp_ge (tgt := 55) rd_d_X9_weightFrom_18 rfl (fun h2 => ?_) (fun h2 => ?_)
      · refine kr_iload_n 1 rd_d_X9_weightFrom_55 rfl ?_
        exact kr_ireturn rd_d_X9_weightFrom_56 (ty := .int) rfl rfl ⟨by rw [ax_l_wfX_succ, ax_s_wfX, if_neg h1, if_pos h2], rfl⟩
      · refine kr_iload_n 0 rd_d_X9_weightFrom_21 rfl ?_
        refine kr_aload_n 2 rd_d_X9_weightFrom_22 rfl ?_
        refine kr_getf G.1 (rd_FL rd_k_X9_weightFrom_23).1 rd_d_X9_weightFrom_23 (hS.1 4 (.inl 9) rfl) (v := .ref 10) (by unfold am_fa; rw [(rd_FL rd_k_X9_weightFrom_23).2]; exact hS.2 4 5 10 rfl) ?_
        refine kr_alenI G.1 (n := 6) rd_d_X9_weightFrom_26 (hS.1 10 (.inr (.int, 6)) rfl) ?_
        refine kr_icmp_ge (tgt := 55) rd_d_X9_weightFrom_27 rfl (fun h3 => ?_) (fun h3 => ?_)
        · refine kr_iload_n 1 rd_d_X9_weightFrom_55 rfl ?_
          exact kr_ireturn rd_d_X9_weightFrom_56 (ty := .int) rfl rfl ⟨by rw [ax_l_wfX_succ, ax_s_wfX, if_neg h1, if_neg h2, if_pos h3], rfl⟩
        · refine kr_aload_n 2 rd_d_X9_weightFrom_30 rfl ?_
          refine kr_getf G.1 (rd_FL rd_k_X9_weightFrom_31).1 rd_d_X9_weightFrom_31 (hS.1 4 (.inl 9) rfl) (v := .ref 9) (by unfold am_fa; rw [(rd_FL rd_k_X9_weightFrom_31).2]; exact hS.2 4 4 9 rfl) ?_
          refine kr_iload_n 0 rd_d_X9_weightFrom_34 rfl ?_
          refine kr_iald G.1 (n := 6) rd_d_X9_weightFrom_35 (hS.1 9 (.inr (.int, 6)) rfl) (hd_in (n := k.toInt.toNat) (by omega) (by omega)) ?_
          rw [hd_clamp (n := k.toInt.toNat) (by omega)]
          refine kr_iload_n 3 rd_d_X9_weightFrom_36 rfl ?_
          refine kr_icmp_lt (tgt := 49) rd_d_X9_weightFrom_37 rfl (fun h4 => ?_) (fun h4 => ?_)
          · refine kr_iinc (v := k + 1) (lv' := [(3, .int (k + 1)), (2, .int z), (0, .ref 4), (1, .int t)]) 0 rd_d_X9_weightFrom_49 rfl rfl (by decide) rfl ?_
            refine kr_goto (tgt := 4) rd_d_X9_weightFrom_52 rfl ?_
            rw [ax_l_wfX_succ, ax_s_wfX, if_neg h1, if_neg h2, if_neg h3, if_pos h4]
            exact ih (j + 1) (k + 1) z (ax_inc ek (by omega)) (by omega)
          · refine kr_iload_n 1 rd_d_X9_weightFrom_40 rfl ?_
            refine kr_aload_n 2 rd_d_X9_weightFrom_41 rfl ?_
            refine kr_getf G.1 (rd_FL rd_k_X9_weightFrom_42).1 rd_d_X9_weightFrom_42 (hS.1 4 (.inl 9) rfl) (v := .ref 10) (by unfold am_fa; rw [(rd_FL rd_k_X9_weightFrom_42).2]; exact hS.2 4 5 10 rfl) ?_
            refine kr_iload_n 0 rd_d_X9_weightFrom_45 rfl ?_
            refine kr_iald G.1 (n := 6) rd_d_X9_weightFrom_46 (hS.1 10 (.inr (.int, 6)) rfl) (hd_in (n := k.toInt.toNat) (by omega) (by omega)) ?_
            rw [hd_clamp (n := k.toInt.toNat) (by omega)]
            refine kr_iadd rd_d_X9_weightFrom_47 ?_
            refine kr_istore_n (lv' := [(2, .int (z + (σ.2.1 10 k.toInt.toNat))), (3, .int k), (0, .ref 4), (1, .int t)]) rd_d_X9_weightFrom_48 (by decide) rfl ?_
            refine kr_iinc (v := k + 1) (lv' := [(3, .int (k + 1)), (2, .int (z + (σ.2.1 10 k.toInt.toNat))), (0, .ref 4), (1, .int t)]) 1 rd_d_X9_weightFrom_49 rfl rfl (by decide) rfl ?_
            refine kr_goto (tgt := 4) rd_d_X9_weightFrom_52 rfl ?_
            rw [ax_l_wfX_succ, ax_s_wfX, if_neg h1, if_neg h2, if_neg h3, if_neg h4]
            exact ih (j + 1) (k + 1) (z + (σ.2.1 10 k.toInt.toNat)) (ax_inc ek (by omega)) (by omega)
def ax_f_wf (m : Nat → Nat → Int32) (t : Int32) : Int32 := ax_l_wfX m t 6 0 0
theorem ax_wf (G : sx_G0 g L xs z9 hd_C ex_mt) {σ : am_S} (hS : ax_S σ) (t : Int32) (hb : pl_Bm σ) : am_K g 1 tX9_weightFrom.1 0 0 0 (lv_args 0 [.ref 4, .int t]) [] σ (ax_R (ax_f_wf σ.2.1 t) σ) := by
  refine kr_iconst (v := 0) rd_d_X9_weightFrom_0 (by decide) ?_
  refine kr_istore_n (lv' := [(2, .int 0), (0, .ref 4), (1, .int t)]) rd_d_X9_weightFrom_1 (by decide) rfl ?_
  refine kr_iconst (v := 0) rd_d_X9_weightFrom_2 (by decide) ?_
  refine kr_istore_n (lv' := [(3, .int 0), (2, .int 0), (0, .ref 4), (1, .int t)]) rd_d_X9_weightFrom_3 (by decide) rfl ?_
  rw [ax_f_wf]
  exact kr_less (by decide) (Nat.le_refl _) (Nat.le_refl _) (ax_lo_wfX G hS t hb.2.1.2 6 0 0 0 rfl rfl)
def ax_s_sdM (s : Nat → Int32) (t : Int32) (rec : Int32 → Int32 → Int32) (k z : Int32) : Int32 := if (ax_f_many (s)) ≤ k then z else if (ax_f_secM (s) k (k.toInt.toNat)) < t then rec (k + 1) (z + 0) else rec (k + 1) (z + (ax_f_wgtM (s) k (k.toInt.toNat)))
def ax_l_sdM (s : Nat → Int32) (t : Int32) : Nat → Int32 → Int32 → Int32
  | 0, k, z => ax_s_sdM s t (fun _ _ => 0) k z
  | f + 1, k, z => ax_s_sdM s t (ax_l_sdM s t f) k z
theorem ax_l_sdM_zero (s : Nat → Int32) (t : Int32) (k z : Int32) : ax_l_sdM s t 0 k z = ax_s_sdM s t (fun _ _ => 0) k z := rfl
theorem ax_l_sdM_succ (s : Nat → Int32) (t : Int32) (f : Nat) (k z : Int32) : ax_l_sdM s t (f + 1) k z = ax_s_sdM s t (ax_l_sdM s t f) k z := rfl
theorem ax_lo_sdM (G : sx_G0 g L xs z9 hd_C ex_mt) {σ : am_S} (hS : ax_S σ) (t : Int32) (hb : 0 ≤ (σ.2.1 120 1).toInt ∧ (σ.2.1 120 1).toInt ≤ 6) : ∀ (f j : Nat) (k z : Int32), k.toInt = (j : Int) → j + f = 6 → am_K g 3 tX12_standing.1 0 0 4 [(3, .int k), (2, .int z), (0, .ref 118), (1, .int t)] [] σ (ax_R (ax_l_sdM (σ.2.1 120) t f k z) σ) := by
  intro f
  induction f with
  | zero =>
    intro j k z ek hj
    refine kr_iload_n 0 rd_d_X12_standing_4 rfl ?_
    refine kr_aload_n 2 rd_d_X12_standing_5 rfl ?_
    refine rd_call G (T2 := tX12_standMany) rfl rd_d_X12_standing_6 rd_k_X12_standing_6 rfl (hS.1 118 (.inl 12) rfl) (as := []) (st := [.int k]) rfl (Nat.le_of_ble_eq_true rfl) rfl (Nat.le_of_ble_eq_true rfl) (d1 := 2) (by decide) (fun _ h => by cases h.1) (ax_many G hS ) ?_
    intro v1 σ1 ⟨hv1, hs1⟩
    cases hv1
    rw [hs1]
    refine kr_icmp_ge (tgt := 39) rd_d_X12_standing_9 rfl (fun h2 => ?_) (fun h2 => ?_)
    · refine kr_iload_n 1 rd_d_X12_standing_39 rfl ?_
      exact kr_ireturn rd_d_X12_standing_40 (ty := .int) rfl rfl ⟨by rw [ax_l_sdM_zero, ax_s_sdM, if_pos h2], rfl⟩
    · exact absurd (Int32.le_iff_toInt_le.mpr (by have := (ax_many6 hb).2; omega)) h2
  | succ f ih =>
    intro j k z ek hj
    refine kr_iload_n 0 rd_d_X12_standing_4 rfl ?_
    refine kr_aload_n 2 rd_d_X12_standing_5 rfl ?_
    refine rd_call G (T2 := tX12_standMany) rfl rd_d_X12_standing_6 rd_k_X12_standing_6 rfl (hS.1 118 (.inl 12) rfl) (as := []) (st := [.int k]) rfl (Nat.le_of_ble_eq_true rfl) rfl (Nat.le_of_ble_eq_true rfl) (d1 := 2) (by decide) (fun _ h => by cases h.1) (ax_many G hS ) ?_
    intro v1 σ1 ⟨hv1, hs1⟩
    cases hv1
    rw [hs1]
    refine kr_icmp_ge (tgt := 39) rd_d_X12_standing_9 rfl (fun h2 => ?_) (fun h2 => ?_)
    · refine kr_iload_n 1 rd_d_X12_standing_39 rfl ?_
      exact kr_ireturn rd_d_X12_standing_40 (ty := .int) rfl rfl ⟨by rw [ax_l_sdM_succ, ax_s_sdM, if_pos h2], rfl⟩
    · refine kr_iload_n 1 rd_d_X12_standing_12 rfl ?_
      refine kr_aload_n 2 rd_d_X12_standing_13 rfl ?_
      refine kr_iload_n 0 rd_d_X12_standing_14 rfl ?_
      refine rd_call G (T2 := tX12_secondsOf) rfl rd_d_X12_standing_15 rd_k_X12_standing_15 rfl (hS.1 118 (.inl 12) rfl) (as := [.int k]) (st := [.int z]) rfl (Nat.le_of_ble_eq_true rfl) rfl (Nat.le_of_ble_eq_true rfl) (d1 := 1) (by decide) (fun _ h => by cases h.1) (ax_secM G hS k (k.toInt.toNat) (by omega) (by omega)) ?_
      intro v3 σ3 ⟨hv3, hs3⟩
      cases hv3
      rw [hs3]
      refine kr_iload_n 3 rd_d_X12_standing_18 rfl ?_
      refine kr_icmp_lt (tgt := 30) rd_d_X12_standing_19 rfl (fun h4 => ?_) (fun h4 => ?_)
      · refine kr_iconst (v := 0) rd_d_X12_standing_30 (by decide) ?_
        refine kr_iadd rd_d_X12_standing_31 ?_
        refine kr_istore_n (lv' := [(2, .int (z + 0)), (3, .int k), (0, .ref 118), (1, .int t)]) rd_d_X12_standing_32 (by decide) rfl ?_
        refine kr_iinc (v := k + 1) (lv' := [(3, .int (k + 1)), (2, .int (z + 0)), (0, .ref 118), (1, .int t)]) 1 rd_d_X12_standing_33 rfl rfl (by decide) rfl ?_
        refine kr_goto (tgt := 4) rd_d_X12_standing_36 rfl ?_
        rw [ax_l_sdM_succ, ax_s_sdM, if_neg h2, if_pos h4]
        exact ih (j + 1) (k + 1) (z + 0) (ax_inc ek (by omega)) (by omega)
      · refine kr_aload_n 2 rd_d_X12_standing_22 rfl ?_
        refine kr_iload_n 0 rd_d_X12_standing_23 rfl ?_
        refine rd_call G (T2 := tX12_weightOf) rfl rd_d_X12_standing_24 rd_k_X12_standing_24 rfl (hS.1 118 (.inl 12) rfl) (as := [.int k]) (st := [.int z]) rfl (Nat.le_of_ble_eq_true rfl) rfl (Nat.le_of_ble_eq_true rfl) (d1 := 1) (by decide) (fun _ h => by cases h.1) (ax_wgtM G hS k (k.toInt.toNat) (by omega) (by omega)) ?_
        intro v5 σ5 ⟨hv5, hs5⟩
        cases hv5
        rw [hs5]
        refine kr_goto (tgt := 31) rd_d_X12_standing_27 rfl ?_
        refine kr_iadd rd_d_X12_standing_31 ?_
        refine kr_istore_n (lv' := [(2, .int (z + (ax_f_wgtM (σ.2.1 120) k (k.toInt.toNat)))), (3, .int k), (0, .ref 118), (1, .int t)]) rd_d_X12_standing_32 (by decide) rfl ?_
        refine kr_iinc (v := k + 1) (lv' := [(3, .int (k + 1)), (2, .int (z + (ax_f_wgtM (σ.2.1 120) k (k.toInt.toNat)))), (0, .ref 118), (1, .int t)]) 1 rd_d_X12_standing_33 rfl rfl (by decide) rfl ?_
        refine kr_goto (tgt := 4) rd_d_X12_standing_36 rfl ?_
        rw [ax_l_sdM_succ, ax_s_sdM, if_neg h2, if_neg h4]
        exact ih (j + 1) (k + 1) (z + (ax_f_wgtM (σ.2.1 120) k (k.toInt.toNat))) (ax_inc ek (by omega)) (by omega)
def ax_f_sd (s : Nat → Int32) (t : Int32) : Int32 := ax_l_sdM (s) t 6 0 0
theorem ax_sd (G : sx_G0 g L xs z9 hd_C ex_mt) {σ : am_S} (hS : ax_S σ) (t : Int32) (hb : pl_B (σ.2.1 120)) : am_K g 3 tX12_standing.1 0 0 0 (lv_args 0 [.ref 118, .int t]) [] σ (ax_R (ax_f_sd (σ.2.1 120) t) σ) := by
  refine kr_iconst (v := 0) rd_d_X12_standing_0 (by decide) ?_
  refine kr_istore_n (lv' := [(2, .int 0), (0, .ref 118), (1, .int t)]) rd_d_X12_standing_1 (by decide) rfl ?_
  refine kr_iconst (v := 0) rd_d_X12_standing_2 (by decide) ?_
  refine kr_istore_n (lv' := [(3, .int 0), (2, .int 0), (0, .ref 118), (1, .int t)]) rd_d_X12_standing_3 (by decide) rfl ?_
  rw [ax_f_sd]
  exact kr_less (by decide) (Nat.le_refl _) (Nat.le_refl _) (ax_lo_sdM G hS t hb.2 6 0 0 0 rfl rfl)
theorem wf_l {m : Nat → Nat → Int32} {s : Nat → Int32} (h : pl_R m 4 s) (b : pl_B s) (t : Int32) : ∀ (f j : Nat) (k z : Int32), k.toInt = (j : Int) → j + f = 6 → ax_l_wfX m t f k z = ax_l_sdM s t f k z := by
  have hN := pl_many h b
  have hn := ax_many6 (s := s) b.2
  have hm : ax_f_many s = m 4 8 := Int32.toInt_inj.mp hN
  have n6 : (nI 6).toInt = 6 := rfl
  have z0 : ∀ x : Int32, x + 0 = x := fun x => Int32.add_zero x
  intro f
  induction f with
  | zero =>
    intro j k z ek hj
    rw [ax_l_wfX_zero, ax_l_sdM_zero, ax_s_wfX, ax_s_sdM, hm, if_pos (Int32.le_iff_toInt_le.mpr (by omega)), if_pos (Int32.le_iff_toInt_le.mpr (by omega))]
  | succ f ih =>
    intro j k z ek hj
    rw [ax_l_wfX_succ, ax_l_sdM_succ, ax_s_wfX, ax_s_sdM, hm]
    by_cases q : m 4 8 ≤ k
    · rw [if_pos q, if_pos q]
    · have q' : ¬ (m 4 8).toInt ≤ k.toInt := fun e => q (Int32.le_iff_toInt_le.mpr e)
      have q6 : ¬ nI 6 ≤ k := fun e => by have := Int32.le_iff_toInt_le.mp e; omega
      obtain ⟨p1, p2⟩ := pl_sec h b (a := k) (j := k.toInt.toNat) (by omega) (by omega)
      rw [ax_f_secX, ax_ent_in (k := k.toInt.toNat) (by decide) (by omega) (by omega)] at p1
      rw [ax_f_wgtX, ax_ent_in (k := k.toInt.toNat) (by decide) (by omega) (by omega)] at p2
      rw [if_neg q, if_neg q, if_neg q6, if_neg q6, p1, p2]
      split
      · rw [z0]; exact ih (j + 1) _ _ (ax_inc ek (by omega)) (by omega)
      · exact ih (j + 1) _ _ (ax_inc ek (by omega)) (by omega)
theorem wf_eq {m : Nat → Nat → Int32} {s : Nat → Int32} (h : pl_R m 4 s) (b : pl_B s) (t : Int32) : ax_f_wf m t = ax_f_sd s t := by
  rw [ax_f_wf, ax_f_sd]
  exact wf_l h b t 6 0 0 0 rfl rfl
def ax_f_set (m : Nat → Nat → Int32) (a : Int32) : Int32 := ax_ent (m 11) 8 a
theorem ax_set (G : sx_G0 g L xs z9 hd_C ex_mt) {σ : am_S} (hS : ax_S σ) (a : Int32) : am_K g 2 tX9_settingOf.1 0 0 0 (lv_args 0 [.ref 4, .int a]) [] σ (ax_R (ax_f_set σ.2.1 a) σ) := by
  refine kr_aload_n 0 rd_d_X9_settingOf_0 rfl ?_
  refine kr_getf G.1 (rd_FL rd_k_X9_settingOf_1).1 rd_d_X9_settingOf_1 (hS.1 4 (.inl 9) rfl) (v := .ref 11) (by unfold am_fa; rw [(rd_FL rd_k_X9_settingOf_1).2]; exact hS.2 4 6 11 rfl) ?_
  refine kr_iload_n 1 rd_d_X9_settingOf_4 rfl ?_
  refine rd_callS G (T2 := tX11_entry) rfl rd_d_X9_settingOf_5 rd_k_X9_settingOf_5 rfl rfl (as := [.ref 11, .int a]) (st := []) rfl (Nat.le_of_ble_eq_true rfl) rfl (Nat.le_of_ble_eq_true rfl) (d1 := 1) (by decide) (fun _ h => by cases h.1) (ax_entry G (hS.1 11 (.inr (.int, 8)) rfl) (by decide) a) ?_
  intro v1 σ1 ⟨hv1, hs1⟩
  cases hv1
  rw [hs1]
  exact kr_ireturn rd_d_X9_settingOf_8 (ty := .int) rfl rfl ⟨rfl, rfl⟩
def ax_f_cnX (m : Nat → Nat → Int32) (a : Int32) : Int32 := if a = 0 then m 4 7 else if a = 1 then m 4 8 else if a = 2 then ax_f_wf m 0 else if a = 11 then m 1 1 else if a < 3 then (-1) else if 10 < a then (-1) else ax_f_set m (a - 3)
theorem ax_cnX (G : sx_G0 g L xs z9 hd_C ex_mt) {σ : am_S} (hS : ax_S σ) (a : Int32) (hb : pl_Bm σ) : am_K g 3 tX11_count.1 0 0 0 (lv_args 0 [.ref 0, .int a]) [] σ (ax_R (ax_f_cnX σ.2.1 a) σ) := by
  refine kr_iload_n 1 rd_d_X11_count_0 rfl ?_
  by_cases h2 : a = 0
  · refine kr_lookup (tgt := 44) rd_d_X11_count_1 (by decide) (off := 43) (by rw [h2]; rfl) rfl ?_
    refine kr_aload_n 0 rd_d_X11_count_44 rfl ?_
    refine kr_getf G.1 (rd_FL rd_k_X11_count_45).1 rd_d_X11_count_45 (hS.1 0 (.inl 11) rfl) (v := .ref 4) (by unfold am_fa; rw [(rd_FL rd_k_X11_count_45).2]; exact hS.2 0 2 4 rfl) ?_
    refine kr_getf G.1 (rd_FL rd_k_X11_count_48).1 rd_d_X11_count_48 (hS.1 4 (.inl 9) rfl) (v := .int (σ.2.1 4 7)) (by unfold am_fa; rw [(rd_FL rd_k_X11_count_48).2]; rfl) ?_
    exact kr_ireturn rd_d_X11_count_51 (ty := .int) rfl rfl ⟨by rw [ax_f_cnX, if_pos h2], rfl⟩
  by_cases h3 : a = 1
  · refine kr_lookup (tgt := 52) rd_d_X11_count_1 (by decide) (off := 51) (by rw [h3]; rfl) rfl ?_
    refine kr_aload_n 0 rd_d_X11_count_52 rfl ?_
    refine kr_getf G.1 (rd_FL rd_k_X11_count_53).1 rd_d_X11_count_53 (hS.1 0 (.inl 11) rfl) (v := .ref 4) (by unfold am_fa; rw [(rd_FL rd_k_X11_count_53).2]; exact hS.2 0 2 4 rfl) ?_
    refine kr_getf G.1 (rd_FL rd_k_X11_count_56).1 rd_d_X11_count_56 (hS.1 4 (.inl 9) rfl) (v := .int (σ.2.1 4 8)) (by unfold am_fa; rw [(rd_FL rd_k_X11_count_56).2]; rfl) ?_
    exact kr_ireturn rd_d_X11_count_59 (ty := .int) rfl rfl ⟨by rw [ax_f_cnX, if_neg h2, if_pos h3], rfl⟩
  by_cases h4 : a = 2
  · refine kr_lookup (tgt := 60) rd_d_X11_count_1 (by decide) (off := 59) (by rw [h4]; rfl) rfl ?_
    refine kr_aload_n 0 rd_d_X11_count_60 rfl ?_
    refine kr_getf G.1 (rd_FL rd_k_X11_count_61).1 rd_d_X11_count_61 (hS.1 0 (.inl 11) rfl) (v := .ref 4) (by unfold am_fa; rw [(rd_FL rd_k_X11_count_61).2]; exact hS.2 0 2 4 rfl) ?_
    refine kr_iconst (v := 0) rd_d_X11_count_64 (by decide) ?_
    refine rd_call G (T2 := tX9_weightFrom) rfl rd_d_X11_count_65 rd_k_X11_count_65 rfl (hS.1 4 (.inl 9) rfl) (as := [.int 0]) (st := []) rfl (Nat.le_of_ble_eq_true rfl) rfl (Nat.le_of_ble_eq_true rfl) (d1 := 1) (by decide) (fun _ h => by cases h.1) (ax_wf G hS 0 hb) ?_
    intro v5 σ5 ⟨hv5, hs5⟩
    cases hv5
    rw [hs5]
    exact kr_ireturn rd_d_X11_count_68 (ty := .int) rfl rfl ⟨by rw [ax_f_cnX, if_neg h2, if_neg h3, if_pos h4], rfl⟩
  by_cases h6 : a = 11
  · refine kr_lookup (tgt := 69) rd_d_X11_count_1 (by decide) (off := 68) (by rw [h6]; rfl) rfl ?_
    refine kr_aload_n 0 rd_d_X11_count_69 rfl ?_
    refine kr_getf G.1 (rd_FL rd_k_X11_count_70).1 rd_d_X11_count_70 (hS.1 0 (.inl 11) rfl) (v := .ref 1) (by unfold am_fa; rw [(rd_FL rd_k_X11_count_70).2]; exact hS.2 0 0 1 rfl) ?_
    refine kr_getf G.1 (rd_FL rd_k_X11_count_73).1 rd_d_X11_count_73 (hS.1 1 (.inl 10) rfl) (v := .int (σ.2.1 1 1)) (by unfold am_fa; rw [(rd_FL rd_k_X11_count_73).2]; rfl) ?_
    exact kr_ireturn rd_d_X11_count_76 (ty := .int) rfl rfl ⟨by rw [ax_f_cnX, if_neg h2, if_neg h3, if_neg h4, if_pos h6], rfl⟩
  refine kr_lookup (tgt := 77) rd_d_X11_count_1 (by decide) (off := 76) ((ax_lkc (A := 0) rfl h2).trans ((ax_lkc (A := 1) rfl h3).trans ((ax_lkc (A := 2) rfl h4).trans ((ax_lkc (A := 11) rfl h6).trans rfl)))) rfl ?_
  refine kr_iload_n 1 rd_d_X11_count_77 rfl ?_
  refine kr_iconst (v := 3) rd_d_X11_count_78 (by decide) ?_
  refine kr_icmp_lt (tgt := 101) rd_d_X11_count_79 rfl (fun h7 => ?_) (fun h7 => ?_)
  · refine kr_iconst (v := (-1)) rd_d_X11_count_101 (by decide) ?_
    exact kr_ireturn rd_d_X11_count_102 (ty := .int) rfl rfl ⟨by rw [ax_f_cnX, if_neg h2, if_neg h3, if_neg h4, if_neg h6, if_pos h7], rfl⟩
  · refine kr_iload_n 1 rd_d_X11_count_82 rfl ?_
    refine kr_bipush (v := 10) rd_d_X11_count_83 (by decide) ?_
    refine kr_icmp_gt (tgt := 101) rd_d_X11_count_85 rfl (fun h8 => ?_) (fun h8 => ?_)
    · refine kr_iconst (v := (-1)) rd_d_X11_count_101 (by decide) ?_
      exact kr_ireturn rd_d_X11_count_102 (ty := .int) rfl rfl ⟨by rw [ax_f_cnX, if_neg h2, if_neg h3, if_neg h4, if_neg h6, if_neg h7, if_pos h8], rfl⟩
    · refine kr_aload_n 0 rd_d_X11_count_88 rfl ?_
      refine kr_getf G.1 (rd_FL rd_k_X11_count_89).1 rd_d_X11_count_89 (hS.1 0 (.inl 11) rfl) (v := .ref 4) (by unfold am_fa; rw [(rd_FL rd_k_X11_count_89).2]; exact hS.2 0 2 4 rfl) ?_
      refine kr_iload_n 1 rd_d_X11_count_92 rfl ?_
      refine kr_iconst (v := 3) rd_d_X11_count_93 (by decide) ?_
      refine kr_isub rd_d_X11_count_94 ?_
      refine rd_call G (T2 := tX9_settingOf) rfl rd_d_X11_count_95 rd_k_X11_count_95 rfl (hS.1 4 (.inl 9) rfl) (as := [.int (a - 3)]) (st := []) rfl (Nat.le_of_ble_eq_true rfl) rfl (Nat.le_of_ble_eq_true rfl) (d1 := 2) (by decide) (fun _ h => by cases h.1) (ax_set G hS (a - 3)) ?_
      intro v9 σ9 ⟨hv9, hs9⟩
      cases hv9
      rw [hs9]
      refine kr_goto (tgt := 102) rd_d_X11_count_98 rfl ?_
      exact kr_ireturn rd_d_X11_count_102 (ty := .int) rfl rfl ⟨by rw [ax_f_cnX, if_neg h2, if_neg h3, if_neg h4, if_neg h6, if_neg h7, if_neg h8], rfl⟩
theorem ax_i310 {a : Int32} (h : ¬ ax_f_isIn a 3 10 = 0) : (54 + a - 3).toInt = ((54 + (a - 3).toInt.toNat : Nat) : Int) ∧ 54 + (a - 3).toInt.toNat < 277 ∧ (a - 3).toInt = (((a - 3).toInt.toNat : Nat) : Int) ∧ (a - 3).toInt.toNat < 8 := by
  have z3 : (3 : Int32).toInt = 3 := rfl
  have z10 : (10 : Int32).toInt = 10 := rfl
  have z54 : (54 : Int32).toInt = 54 := rfl
  rw [ax_f_isIn] at h
  split at h
  · exact absurd rfl h
  · rename_i q1
    split at h
    · exact absurd rfl h
    · rename_i q2
      have g1 : ¬ a.toInt < 3 := fun q => q1 (Int32.lt_iff_toInt_lt.mpr (by omega))
      have g2 : ¬ 10 < a.toInt := fun q => q2 (Int32.lt_iff_toInt_lt.mpr (by omega))
      have e1 := sx_addI 54 a (by show (-2147483648 : Int) ≤ _; omega) (by show _ ≤ (2147483647 : Int); omega)
      have e2 := sx_subI (54 + a) 3 (by show (-2147483648 : Int) ≤ _; omega) (by show _ ≤ (2147483647 : Int); omega)
      have e3 := sx_subI a 3 (by show (-2147483648 : Int) ≤ _; omega) (by show _ ≤ (2147483647 : Int); omega)
      omega
def ax_f_cnM (s : Nat → Int32) (n : Int32) (a : Int32) : Int32 := if a = 0 then s 0 else if a = 1 then ax_f_many (s) else if a = 2 then ax_f_sd (s) 0 else if a = 11 then n else if (ax_f_isIn a 3 10) = 0 then (-1) else s (54 + (a - 3).toInt.toNat)
theorem ax_cnM (G : sx_G0 g L xs z9 hd_C ex_mt) {σ : am_S} (hS : ax_S σ) (a : Int32) (h1 : pl_B (σ.2.1 120)) : am_K g 4 tX12_count.1 0 0 0 (lv_args 0 [.ref 118, .int a]) [] σ (fun r _ => r = some (some (.int (ax_f_cnM (σ.2.1 120) (σ.2.1 118 2) a)))) := by
  refine ax_thr G hS rd_d_X12_count_0 rd_d_X12_count_1 rd_d_X12_count_2 rd_k_X12_count_2 rfl ?_
  intro τ hT hm hm8
  have e120 : σ.2.1 120 = τ.2.1 120 := funext fun k => (hm 120 k (by decide)).symm
  have e118_2 : σ.2.1 118 2 = τ.2.1 118 2 := (hm8 2 (by decide)).symm
  have hb := e120 ▸ h1
  refine kr_iload_n 1 rd_d_X12_count_5 rfl ?_
  by_cases h2 : a = 0
  · refine kr_lookup (tgt := 48) rd_d_X12_count_6 (by decide) (off := 42) (by rw [h2]; rfl) rfl ?_
    refine kr_aload_n 0 rd_d_X12_count_48 rfl ?_
    refine kr_getf G.1 (rd_FL rd_k_X12_count_49).1 rd_d_X12_count_49 (hT.1 118 (.inl 12) rfl) (v := .ref 120) (by unfold am_fa; rw [(rd_FL rd_k_X12_count_49).2]; exact hT.2 118 6 120 rfl) ?_
    refine kr_iconst (v := 0) rd_d_X12_count_52 (by decide) ?_
    refine kr_iald G.1 (n := 277) rd_d_X12_count_53 (hT.1 120 (.inr (.int, 277)) rfl) (hd_in (n := 0) (by decide) (by decide)) ?_
    rw [hd_clamp (n := 0) (by decide)]
    exact kr_ireturn rd_d_X12_count_54 (ty := .int) rfl rfl (by rw [e120, e118_2, ax_f_cnM, if_pos h2])
  by_cases h3 : a = 1
  · refine kr_lookup (tgt := 55) rd_d_X12_count_6 (by decide) (off := 49) (by rw [h3]; rfl) rfl ?_
    refine kr_aload_n 0 rd_d_X12_count_55 rfl ?_
    refine rd_call G (T2 := tX12_standMany) rfl rd_d_X12_count_56 rd_k_X12_count_56 rfl (hT.1 118 (.inl 12) rfl) (as := []) (st := []) rfl (Nat.le_of_ble_eq_true rfl) rfl (Nat.le_of_ble_eq_true rfl) (d1 := 2) (by decide) (fun _ h => by cases h.1) (ax_many G hT ) ?_
    intro v4 σ4 ⟨hv4, hs4⟩
    cases hv4
    rw [hs4]
    exact kr_ireturn rd_d_X12_count_59 (ty := .int) rfl rfl (by rw [e120, e118_2, ax_f_cnM, if_neg h2, if_pos h3])
  by_cases h5 : a = 2
  · refine kr_lookup (tgt := 60) rd_d_X12_count_6 (by decide) (off := 54) (by rw [h5]; rfl) rfl ?_
    refine kr_aload_n 0 rd_d_X12_count_60 rfl ?_
    refine kr_iconst (v := 0) rd_d_X12_count_61 (by decide) ?_
    refine rd_call G (T2 := tX12_standing) rfl rd_d_X12_count_62 rd_k_X12_count_62 rfl (hT.1 118 (.inl 12) rfl) (as := [.int 0]) (st := []) rfl (Nat.le_of_ble_eq_true rfl) rfl (Nat.le_of_ble_eq_true rfl) (d1 := 3) (by decide) (fun _ h => by cases h.1) (ax_sd G hT 0 hb) ?_
    intro v6 σ6 ⟨hv6, hs6⟩
    cases hv6
    rw [hs6]
    exact kr_ireturn rd_d_X12_count_65 (ty := .int) rfl rfl (by rw [e120, e118_2, ax_f_cnM, if_neg h2, if_neg h3, if_pos h5])
  by_cases h7 : a = 11
  · refine kr_lookup (tgt := 66) rd_d_X12_count_6 (by decide) (off := 60) (by rw [h7]; rfl) rfl ?_
    refine kr_aload_n 0 rd_d_X12_count_66 rfl ?_
    refine kr_getf G.1 (rd_FL rd_k_X12_count_67).1 rd_d_X12_count_67 (hT.1 118 (.inl 12) rfl) (v := .int (τ.2.1 118 2)) (by unfold am_fa; rw [(rd_FL rd_k_X12_count_67).2]; rfl) ?_
    exact kr_ireturn rd_d_X12_count_70 (ty := .int) rfl rfl (by rw [e120, e118_2, ax_f_cnM, if_neg h2, if_neg h3, if_neg h5, if_pos h7])
  refine kr_lookup (tgt := 71) rd_d_X12_count_6 (by decide) (off := 65) ((ax_lkc (A := 0) rfl h2).trans ((ax_lkc (A := 1) rfl h3).trans ((ax_lkc (A := 2) rfl h5).trans ((ax_lkc (A := 11) rfl h7).trans rfl)))) rfl ?_
  refine kr_iload_n 1 rd_d_X12_count_71 rfl ?_
  refine kr_iconst (v := 3) rd_d_X12_count_72 (by decide) ?_
  refine kr_bipush (v := 10) rd_d_X12_count_73 (by decide) ?_
  refine rd_callS G (T2 := tX12_isIn) rfl rd_d_X12_count_75 rd_k_X12_count_75 rfl rfl (as := [.int a, .int 3, .int 10]) (st := []) rfl (Nat.le_of_ble_eq_true rfl) rfl (Nat.le_of_ble_eq_true rfl) (d1 := 1) (by decide) (fun _ h => by cases h.1) (ax_isIn G hT a 3 10) ?_
  intro v8 σ8 ⟨hv8, hs8⟩
  cases hv8
  rw [hs8]
  refine kr_if_eq (tgt := 95) rd_d_X12_count_78 rfl (fun h9 => ?_) (fun h9 => ?_)
  · refine kr_iconst (v := (-1)) rd_d_X12_count_95 (by decide) ?_
    exact kr_ireturn rd_d_X12_count_96 (ty := .int) rfl rfl (by rw [e120, e118_2, ax_f_cnM, if_neg h2, if_neg h3, if_neg h5, if_neg h7, if_pos h9])
  · refine kr_aload_n 0 rd_d_X12_count_81 rfl ?_
    refine kr_getf G.1 (rd_FL rd_k_X12_count_82).1 rd_d_X12_count_82 (hT.1 118 (.inl 12) rfl) (v := .ref 120) (by unfold am_fa; rw [(rd_FL rd_k_X12_count_82).2]; exact hT.2 118 6 120 rfl) ?_
    refine kr_bipush (v := 54) rd_d_X12_count_85 (by decide) ?_
    refine kr_iload_n 1 rd_d_X12_count_87 rfl ?_
    refine kr_iadd rd_d_X12_count_88 ?_
    refine kr_iconst (v := 3) rd_d_X12_count_89 (by decide) ?_
    refine kr_isub rd_d_X12_count_90 ?_
    refine kr_iald G.1 (n := 277) rd_d_X12_count_91 (hT.1 120 (.inr (.int, 277)) rfl) (hd_in (n := 54 + (a - 3).toInt.toNat) (ax_i310 h9).1 (ax_i310 h9).2.1) ?_
    rw [hd_clamp (n := 54 + (a - 3).toInt.toNat) (ax_i310 h9).1]
    refine kr_goto (tgt := 96) rd_d_X12_count_92 rfl ?_
    exact kr_ireturn rd_d_X12_count_96 (ty := .int) rfl rfl (by rw [e120, e118_2, ax_f_cnM, if_neg h2, if_neg h3, if_neg h5, if_neg h7, if_neg h9])
theorem cn_eq {m : Nat → Nat → Int32} {s : Nat → Int32} (h : pl_R m 4 s) (b : pl_B s) {n : Int32} (hn : m 1 1 = n) (a : Int32) : ax_f_cnX m a = ax_f_cnM s n a := by
  have hm : ax_f_many s = m 4 8 := Int32.toInt_inj.mp (pl_many h b)
  rw [ax_f_cnX, ax_f_cnM, pl_w h, hm, wf_eq h b, hn]
  by_cases a0 : a = 0
  · rw [if_pos a0, if_pos a0]
  rw [if_neg a0, if_neg a0]
  by_cases a1 : a = 1
  · rw [if_pos a1, if_pos a1]
  rw [if_neg a1, if_neg a1]
  by_cases a2 : a = 2
  · rw [if_pos a2, if_pos a2]
  rw [if_neg a2, if_neg a2]
  by_cases a3 : a = 11
  · rw [if_pos a3, if_pos a3]
  rw [if_neg a3, if_neg a3]
  by_cases q : ax_f_isIn a 3 10 = 0
  · rw [if_pos q]
    rw [ax_f_isIn] at q
    split at q
    · rename_i g; rw [if_pos g]
    · rename_i g
      split at q
      · rename_i g2; rw [if_neg g, if_pos g2]
      · exact absurd q (by decide)
  · obtain ⟨i1, i2, i3, i4⟩ := ax_i310 q
    have e : ax_f_set m (a - 3) = s (54 + (a - 3).toInt.toNat) := ax_setE h i3 i4
    rw [if_neg q, e]
    rw [ax_f_isIn] at q
    split at q
    · exact absurd rfl q
    · rename_i g
      split at q
      · exact absurd rfl q
      · rename_i g2; rw [if_neg g, if_neg g2]
end AXX
