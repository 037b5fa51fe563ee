/-! exact answers, further (rows written by a program) -/
theorem rd_d_X4_measureUp_0 : decode tX4_measureUp.1.2.1 0 = .ok (.aload_n 0, 1) := by decide +kernel
theorem rd_d_X4_measureUp_1 : decode tX4_measureUp.1.2.1 1 = .ok (.invokevirtual 127, 3) := by decide +kernel
theorem rd_k_X4_measureUp_1 : ex_lk ex_mt tX4_measureUp 1 (.invokevirtual 127) [0, 210, 262329] = true := by decide +kernel
theorem rd_d_X4_measureUp_4 : decode tX4_measureUp.1.2.1 4 = .ok (.iload_n 2, 1) := by decide +kernel
theorem rd_d_X4_measureUp_5 : decode tX4_measureUp.1.2.1 5 = .ok (.istore_n 3, 1) := by decide +kernel
theorem rd_d_X4_measureUp_6 : decode tX4_measureUp.1.2.1 6 = .ok (.iload_n 3, 1) := by decide +kernel
theorem rd_d_X4_measureUp_7 : decode tX4_measureUp.1.2.1 7 = .ok (.iload_n 1, 1) := by decide +kernel
theorem rd_d_X4_measureUp_8 : decode tX4_measureUp.1.2.1 8 = .ok (.if_icmp .lt 47, 3) := by decide +kernel
theorem rd_d_X4_measureUp_11 : decode tX4_measureUp.1.2.1 11 = .ok (.aload_n 0, 1) := by decide +kernel
theorem rd_d_X4_measureUp_12 : decode tX4_measureUp.1.2.1 12 = .ok (.iload_n 3, 1) := by decide +kernel
theorem rd_d_X4_measureUp_13 : decode tX4_measureUp.1.2.1 13 = .ok (.aload_n 0, 1) := by decide +kernel
theorem rd_d_X4_measureUp_14 : decode tX4_measureUp.1.2.1 14 = .ok (.getfield 46, 3) := by decide +kernel
theorem rd_k_X4_measureUp_14 : ex_lk ex_mt tX4_measureUp 14 (.getfield 46) [4, 0, 2, 131083] = true := by decide +kernel
theorem rd_d_X4_measureUp_17 : decode tX4_measureUp.1.2.1 17 = .ok (.invokevirtual 149, 3) := by decide +kernel
theorem rd_k_X4_measureUp_17 : ex_lk ex_mt tX4_measureUp 17 (.invokevirtual 149) [0, 286, 262363] = true := by decide +kernel
theorem rd_d_X4_measureUp_20 : decode tX4_measureUp.1.2.1 20 = .ok (.iconst 1, 1) := by decide +kernel
theorem rd_d_X4_measureUp_21 : decode tX4_measureUp.1.2.1 21 = .ok (.iconst 0, 1) := by decide +kernel
theorem rd_d_X4_measureUp_22 : decode tX4_measureUp.1.2.1 22 = .ok (.invokevirtual 130, 3) := by decide +kernel
theorem rd_k_X4_measureUp_22 : ex_lk ex_mt tX4_measureUp 22 (.invokevirtual 130) [0, 223, 262333] = true := by decide +kernel
theorem rd_d_X4_measureUp_25 : decode tX4_measureUp.1.2.1 25 = .ok (.aload_n 0, 1) := by decide +kernel
theorem rd_d_X4_measureUp_26 : decode tX4_measureUp.1.2.1 26 = .ok (.getfield 25, 3) := by decide +kernel
theorem rd_k_X4_measureUp_26 : ex_lk ex_mt tX4_measureUp 26 (.getfield 25) [4, 5, 2, 131088] = true := by decide +kernel
theorem rd_d_X4_measureUp_29 : decode tX4_measureUp.1.2.1 29 = .ok (.iload_n 3, 1) := by decide +kernel
theorem rd_d_X4_measureUp_30 : decode tX4_measureUp.1.2.1 30 = .ok (.bipush 10, 2) := by decide +kernel
theorem rd_d_X4_measureUp_32 : decode tX4_measureUp.1.2.1 32 = .ok (.imul, 1) := by decide +kernel
theorem rd_d_X4_measureUp_33 : decode tX4_measureUp.1.2.1 33 = .ok (.iload_n 2, 1) := by decide +kernel
theorem rd_d_X4_measureUp_34 : decode tX4_measureUp.1.2.1 34 = .ok (.iadd, 1) := by decide +kernel
theorem rd_d_X4_measureUp_35 : decode tX4_measureUp.1.2.1 35 = .ok (.aload_n 0, 1) := by decide +kernel
theorem rd_d_X4_measureUp_36 : decode tX4_measureUp.1.2.1 36 = .ok (.aload_n 0, 1) := by decide +kernel
theorem rd_d_X4_measureUp_37 : decode tX4_measureUp.1.2.1 37 = .ok (.getfield 46, 3) := by decide +kernel
theorem rd_k_X4_measureUp_37 : ex_lk ex_mt tX4_measureUp 37 (.getfield 46) [4, 0, 2, 131083] = true := by decide +kernel
theorem rd_d_X4_measureUp_40 : decode tX4_measureUp.1.2.1 40 = .ok (.invokevirtual 149, 3) := by decide +kernel
theorem rd_k_X4_measureUp_40 : ex_lk ex_mt tX4_measureUp 40 (.invokevirtual 149) [0, 286, 262363] = true := by decide +kernel
theorem rd_d_X4_measureUp_43 : decode tX4_measureUp.1.2.1 43 = .ok (.invokevirtual 137, 3) := by decide +kernel
theorem rd_k_X4_measureUp_43 : ex_lk ex_mt tX4_measureUp 43 (.invokevirtual 137) [0, 212, 262359] = true := by decide +kernel
theorem rd_d_X4_measureUp_46 : decode tX4_measureUp.1.2.1 46 = .ok (.invokestatic 82, 3) := by decide +kernel
theorem rd_k_X4_measureUp_46 : ex_lk ex_mt tX4_measureUp 46 (.invokestatic 82) [0, 55, 262327] = true := by decide +kernel
theorem rd_d_X4_measureUp_49 : decode tX4_measureUp.1.2.1 49 = .ok (.iinc 3 (-1), 3) := by decide +kernel
theorem rd_d_X4_measureUp_52 : decode tX4_measureUp.1.2.1 52 = .ok (.goto (-46), 3) := by decide +kernel
theorem rd_d_X4_measureUp_55 : decode tX4_measureUp.1.2.1 55 = .ok (.return_, 1) := by decide +kernel
theorem rd_d_X4_measureDown_0 : decode tX4_measureDown.1.2.1 0 = .ok (.aload_n 0, 1) := by decide +kernel
theorem rd_d_X4_measureDown_1 : decode tX4_measureDown.1.2.1 1 = .ok (.invokevirtual 127, 3) := by decide +kernel
theorem rd_k_X4_measureDown_1 : ex_lk ex_mt tX4_measureDown 1 (.invokevirtual 127) [0, 210, 262329] = true := by decide +kernel
theorem rd_d_X4_measureDown_4 : decode tX4_measureDown.1.2.1 4 = .ok (.iload_n 1, 1) := by decide +kernel
theorem rd_d_X4_measureDown_5 : decode tX4_measureDown.1.2.1 5 = .ok (.istore_n 3, 1) := by decide +kernel
theorem rd_d_X4_measureDown_6 : decode tX4_measureDown.1.2.1 6 = .ok (.iload_n 3, 1) := by decide +kernel
theorem rd_d_X4_measureDown_7 : decode tX4_measureDown.1.2.1 7 = .ok (.iload_n 2, 1) := by decide +kernel
theorem rd_d_X4_measureDown_8 : decode tX4_measureDown.1.2.1 8 = .ok (.if_icmp .gt 47, 3) := by decide +kernel
theorem rd_d_X4_measureDown_11 : decode tX4_measureDown.1.2.1 11 = .ok (.aload_n 0, 1) := by decide +kernel
theorem rd_d_X4_measureDown_12 : decode tX4_measureDown.1.2.1 12 = .ok (.iload_n 3, 1) := by decide +kernel
theorem rd_d_X4_measureDown_13 : decode tX4_measureDown.1.2.1 13 = .ok (.aload_n 0, 1) := by decide +kernel
theorem rd_d_X4_measureDown_14 : decode tX4_measureDown.1.2.1 14 = .ok (.getfield 46, 3) := by decide +kernel
theorem rd_k_X4_measureDown_14 : ex_lk ex_mt tX4_measureDown 14 (.getfield 46) [4, 0, 2, 131083] = true := by decide +kernel
theorem rd_d_X4_measureDown_17 : decode tX4_measureDown.1.2.1 17 = .ok (.invokevirtual 149, 3) := by decide +kernel
theorem rd_k_X4_measureDown_17 : ex_lk ex_mt tX4_measureDown 17 (.invokevirtual 149) [0, 286, 262363] = true := by decide +kernel
theorem rd_d_X4_measureDown_20 : decode tX4_measureDown.1.2.1 20 = .ok (.iconst 0, 1) := by decide +kernel
theorem rd_d_X4_measureDown_21 : decode tX4_measureDown.1.2.1 21 = .ok (.iconst 0, 1) := by decide +kernel
theorem rd_d_X4_measureDown_22 : decode tX4_measureDown.1.2.1 22 = .ok (.invokevirtual 130, 3) := by decide +kernel
theorem rd_k_X4_measureDown_22 : ex_lk ex_mt tX4_measureDown 22 (.invokevirtual 130) [0, 223, 262333] = true := by decide +kernel
theorem rd_d_X4_measureDown_25 : decode tX4_measureDown.1.2.1 25 = .ok (.aload_n 0, 1) := by decide +kernel
theorem rd_d_X4_measureDown_26 : decode tX4_measureDown.1.2.1 26 = .ok (.getfield 28, 3) := by decide +kernel
theorem rd_k_X4_measureDown_26 : ex_lk ex_mt tX4_measureDown 26 (.getfield 28) [4, 6, 2, 131089] = true := by decide +kernel
theorem rd_d_X4_measureDown_29 : decode tX4_measureDown.1.2.1 29 = .ok (.iload_n 1, 1) := by decide +kernel
theorem rd_d_X4_measureDown_30 : decode tX4_measureDown.1.2.1 30 = .ok (.bipush 10, 2) := by decide +kernel
theorem rd_d_X4_measureDown_32 : decode tX4_measureDown.1.2.1 32 = .ok (.imul, 1) := by decide +kernel
theorem rd_d_X4_measureDown_33 : decode tX4_measureDown.1.2.1 33 = .ok (.iload_n 3, 1) := by decide +kernel
theorem rd_d_X4_measureDown_34 : decode tX4_measureDown.1.2.1 34 = .ok (.iadd, 1) := by decide +kernel
theorem rd_d_X4_measureDown_35 : decode tX4_measureDown.1.2.1 35 = .ok (.aload_n 0, 1) := by decide +kernel
theorem rd_d_X4_measureDown_36 : decode tX4_measureDown.1.2.1 36 = .ok (.aload_n 0, 1) := by decide +kernel
theorem rd_d_X4_measureDown_37 : decode tX4_measureDown.1.2.1 37 = .ok (.getfield 46, 3) := by decide +kernel
theorem rd_k_X4_measureDown_37 : ex_lk ex_mt tX4_measureDown 37 (.getfield 46) [4, 0, 2, 131083] = true := by decide +kernel
theorem rd_d_X4_measureDown_40 : decode tX4_measureDown.1.2.1 40 = .ok (.invokevirtual 149, 3) := by decide +kernel
theorem rd_k_X4_measureDown_40 : ex_lk ex_mt tX4_measureDown 40 (.invokevirtual 149) [0, 286, 262363] = true := by decide +kernel
theorem rd_d_X4_measureDown_43 : decode tX4_measureDown.1.2.1 43 = .ok (.invokevirtual 137, 3) := by decide +kernel
theorem rd_k_X4_measureDown_43 : ex_lk ex_mt tX4_measureDown 43 (.invokevirtual 137) [0, 212, 262359] = true := by decide +kernel
theorem rd_d_X4_measureDown_46 : decode tX4_measureDown.1.2.1 46 = .ok (.invokestatic 82, 3) := by decide +kernel
theorem rd_k_X4_measureDown_46 : ex_lk ex_mt tX4_measureDown 46 (.invokestatic 82) [0, 55, 262327] = true := by decide +kernel
theorem rd_d_X4_measureDown_49 : decode tX4_measureDown.1.2.1 49 = .ok (.iinc 3 1, 3) := by decide +kernel
theorem rd_d_X4_measureDown_52 : decode tX4_measureDown.1.2.1 52 = .ok (.goto (-46), 3) := by decide +kernel
theorem rd_d_X4_measureDown_55 : decode tX4_measureDown.1.2.1 55 = .ok (.return_, 1) := by decide +kernel
theorem rd_d_X4_rowGain_0 : decode tX4_rowGain.1.2.1 0 = .ok (.aload_n 0, 1) := by decide +kernel
theorem rd_d_X4_rowGain_1 : decode tX4_rowGain.1.2.1 1 = .ok (.getfield 46, 3) := by decide +kernel
theorem rd_k_X4_rowGain_1 : ex_lk ex_mt tX4_rowGain 1 (.getfield 46) [4, 0, 2, 131083] = true := by decide +kernel
theorem rd_d_X4_rowGain_4 : decode tX4_rowGain.1.2.1 4 = .ok (.iload_n 1, 1) := by decide +kernel
theorem rd_d_X4_rowGain_5 : decode tX4_rowGain.1.2.1 5 = .ok (.invokevirtual 182, 3) := by decide +kernel
theorem rd_k_X4_rowGain_5 : ex_lk ex_mt tX4_rowGain 5 (.invokevirtual 182) [0, 293, 327722] = true := by decide +kernel
theorem rd_d_X4_rowGain_8 : decode tX4_rowGain.1.2.1 8 = .ok (.ifCond .eq 19, 3) := by decide +kernel
theorem rd_d_X4_rowGain_11 : decode tX4_rowGain.1.2.1 11 = .ok (.aload_n 0, 1) := by decide +kernel
theorem rd_d_X4_rowGain_12 : decode tX4_rowGain.1.2.1 12 = .ok (.getfield 46, 3) := by decide +kernel
theorem rd_k_X4_rowGain_12 : ex_lk ex_mt tX4_rowGain 12 (.getfield 46) [4, 0, 2, 131083] = true := by decide +kernel
theorem rd_d_X4_rowGain_15 : decode tX4_rowGain.1.2.1 15 = .ok (.iload_n 2, 1) := by decide +kernel
theorem rd_d_X4_rowGain_16 : decode tX4_rowGain.1.2.1 16 = .ok (.invokevirtual 182, 3) := by decide +kernel
theorem rd_k_X4_rowGain_16 : ex_lk ex_mt tX4_rowGain 16 (.invokevirtual 182) [0, 293, 327722] = true := by decide +kernel
theorem rd_d_X4_rowGain_19 : decode tX4_rowGain.1.2.1 19 = .ok (.ifCond .eq 8, 3) := by decide +kernel
theorem rd_d_X4_rowGain_22 : decode tX4_rowGain.1.2.1 22 = .ok (.iload_n 1, 1) := by decide +kernel
theorem rd_d_X4_rowGain_23 : decode tX4_rowGain.1.2.1 23 = .ok (.iload_n 2, 1) := by decide +kernel
theorem rd_d_X4_rowGain_24 : decode tX4_rowGain.1.2.1 24 = .ok (.if_icmp .le 5, 3) := by decide +kernel
theorem rd_d_X4_rowGain_27 : decode tX4_rowGain.1.2.1 27 = .ok (.iconst 0, 1) := by decide +kernel
theorem rd_d_X4_rowGain_28 : decode tX4_rowGain.1.2.1 28 = .ok (.ireturn, 1) := by decide +kernel
theorem rd_d_X4_rowGain_29 : decode tX4_rowGain.1.2.1 29 = .ok (.iload_n 1, 1) := by decide +kernel
theorem rd_d_X4_rowGain_30 : decode tX4_rowGain.1.2.1 30 = .ok (.bipush 10, 2) := by decide +kernel
theorem rd_d_X4_rowGain_32 : decode tX4_rowGain.1.2.1 32 = .ok (.imul, 1) := by decide +kernel
theorem rd_d_X4_rowGain_33 : decode tX4_rowGain.1.2.1 33 = .ok (.iload_n 2, 1) := by decide +kernel
theorem rd_d_X4_rowGain_34 : decode tX4_rowGain.1.2.1 34 = .ok (.iadd, 1) := by decide +kernel
theorem rd_d_X4_rowGain_35 : decode tX4_rowGain.1.2.1 35 = .ok (.istore_n 3, 1) := by decide +kernel
theorem rd_d_X4_rowGain_36 : decode tX4_rowGain.1.2.1 36 = .ok (.aload_n 0, 1) := by decide +kernel
theorem rd_d_X4_rowGain_37 : decode tX4_rowGain.1.2.1 37 = .ok (.getfield 25, 3) := by decide +kernel
theorem rd_k_X4_rowGain_37 : ex_lk ex_mt tX4_rowGain 37 (.getfield 25) [4, 5, 2, 131088] = true := by decide +kernel
theorem rd_d_X4_rowGain_40 : decode tX4_rowGain.1.2.1 40 = .ok (.iload_n 3, 1) := by decide +kernel
theorem rd_d_X4_rowGain_41 : decode tX4_rowGain.1.2.1 41 = .ok (.invokestatic 112, 3) := by decide +kernel
theorem rd_k_X4_rowGain_41 : ex_lk ex_mt tX4_rowGain 41 (.invokestatic 112) [0, 32, 262344] = true := by decide +kernel
theorem rd_d_X4_rowGain_44 : decode tX4_rowGain.1.2.1 44 = .ok (.iconst (-1), 1) := by decide +kernel
theorem rd_d_X4_rowGain_45 : decode tX4_rowGain.1.2.1 45 = .ok (.if_icmp .ne 9, 3) := by decide +kernel
theorem rd_d_X4_rowGain_48 : decode tX4_rowGain.1.2.1 48 = .ok (.aload_n 0, 1) := by decide +kernel
theorem rd_d_X4_rowGain_49 : decode tX4_rowGain.1.2.1 49 = .ok (.iload_n 1, 1) := by decide +kernel
theorem rd_d_X4_rowGain_50 : decode tX4_rowGain.1.2.1 50 = .ok (.iload_n 2, 1) := by decide +kernel
theorem rd_d_X4_rowGain_51 : decode tX4_rowGain.1.2.1 51 = .ok (.invokevirtual 186, 3) := by decide +kernel
theorem rd_k_X4_rowGain_51 : ex_lk ex_mt tX4_rowGain 51 (.invokevirtual 186) [0, 217, 327723] = true := by decide +kernel
theorem rd_d_X4_rowGain_54 : decode tX4_rowGain.1.2.1 54 = .ok (.aload_n 0, 1) := by decide +kernel
theorem rd_d_X4_rowGain_55 : decode tX4_rowGain.1.2.1 55 = .ok (.getfield 28, 3) := by decide +kernel
theorem rd_k_X4_rowGain_55 : ex_lk ex_mt tX4_rowGain 55 (.getfield 28) [4, 6, 2, 131089] = true := by decide +kernel
theorem rd_d_X4_rowGain_58 : decode tX4_rowGain.1.2.1 58 = .ok (.iload_n 3, 1) := by decide +kernel
theorem rd_d_X4_rowGain_59 : decode tX4_rowGain.1.2.1 59 = .ok (.invokestatic 112, 3) := by decide +kernel
theorem rd_k_X4_rowGain_59 : ex_lk ex_mt tX4_rowGain 59 (.invokestatic 112) [0, 32, 262344] = true := by decide +kernel
theorem rd_d_X4_rowGain_62 : decode tX4_rowGain.1.2.1 62 = .ok (.iconst (-1), 1) := by decide +kernel
theorem rd_d_X4_rowGain_63 : decode tX4_rowGain.1.2.1 63 = .ok (.if_icmp .ne 9, 3) := by decide +kernel
theorem rd_d_X4_rowGain_66 : decode tX4_rowGain.1.2.1 66 = .ok (.aload_n 0, 1) := by decide +kernel
theorem rd_d_X4_rowGain_67 : decode tX4_rowGain.1.2.1 67 = .ok (.iload_n 1, 1) := by decide +kernel
theorem rd_d_X4_rowGain_68 : decode tX4_rowGain.1.2.1 68 = .ok (.iload_n 2, 1) := by decide +kernel
theorem rd_d_X4_rowGain_69 : decode tX4_rowGain.1.2.1 69 = .ok (.invokevirtual 189, 3) := by decide +kernel
theorem rd_k_X4_rowGain_69 : ex_lk ex_mt tX4_rowGain 69 (.invokevirtual 189) [0, 216, 327727] = true := by decide +kernel
theorem rd_d_X4_rowGain_72 : decode tX4_rowGain.1.2.1 72 = .ok (.aload_n 0, 1) := by decide +kernel
theorem rd_d_X4_rowGain_73 : decode tX4_rowGain.1.2.1 73 = .ok (.getfield 25, 3) := by decide +kernel
theorem rd_k_X4_rowGain_73 : ex_lk ex_mt tX4_rowGain 73 (.getfield 25) [4, 5, 2, 131088] = true := by decide +kernel
theorem rd_d_X4_rowGain_76 : decode tX4_rowGain.1.2.1 76 = .ok (.iload_n 3, 1) := by decide +kernel
theorem rd_d_X4_rowGain_77 : decode tX4_rowGain.1.2.1 77 = .ok (.invokestatic 112, 3) := by decide +kernel
theorem rd_k_X4_rowGain_77 : ex_lk ex_mt tX4_rowGain 77 (.invokestatic 112) [0, 32, 262344] = true := by decide +kernel
theorem rd_d_X4_rowGain_80 : decode tX4_rowGain.1.2.1 80 = .ok (.aload_n 0, 1) := by decide +kernel
theorem rd_d_X4_rowGain_81 : decode tX4_rowGain.1.2.1 81 = .ok (.getfield 28, 3) := by decide +kernel
theorem rd_k_X4_rowGain_81 : ex_lk ex_mt tX4_rowGain 81 (.getfield 28) [4, 6, 2, 131089] = true := by decide +kernel
theorem rd_d_X4_rowGain_84 : decode tX4_rowGain.1.2.1 84 = .ok (.iload_n 3, 1) := by decide +kernel
theorem rd_d_X4_rowGain_85 : decode tX4_rowGain.1.2.1 85 = .ok (.invokestatic 112, 3) := by decide +kernel
theorem rd_k_X4_rowGain_85 : ex_lk ex_mt tX4_rowGain 85 (.invokestatic 112) [0, 32, 262344] = true := by decide +kernel
theorem rd_d_X4_rowGain_88 : decode tX4_rowGain.1.2.1 88 = .ok (.invokestatic 192, 3) := by decide +kernel
theorem rd_k_X4_rowGain_88 : ex_lk ex_mt tX4_rowGain 88 (.invokestatic 192) [1, 0, 327731, 0] = true := by decide +kernel
theorem rd_d_X4_rowGain_91 : decode tX4_rowGain.1.2.1 91 = .ok (.ireturn, 1) := by decide +kernel
section AXX
variable {g : am_C} {L : Nat} {xs : Nat → Int32}
def pz_hide (p : Prop) : Prop := p
theorem mu_a {Q K : Nat} {w : Int32} (hw : w.toInt = ((Q - K : Nat) : Int)) (h : K ≤ Q) : (w + (-1)).toInt = (Q : Int) - ((K + 1 : Nat) : Int) := by
  have e := ax_dec (k := w) (f := Q - K) (by omega)
  omega
theorem md_a {A K : Nat} {w : Int32} (hw : w.toInt = ((A + K : Nat) : Int)) (h : A + K < 100000) : (w + 1).toInt = (A : Int) + ((K + 1 : Nat) : Int) := by
  have e := ax_inc hw h
  omega
/-- BASKET -/
def pl_B6 (s : Nat → Int32) : Prop := 0 ≤ (s 55).toInt ∧ (s 55).toInt ≤ 24
theorem pa_bas {m : Nat → Nat → Int32} {s : Nat → Int32} (h : pl_R m 4 s) (b6 : pl_B6 s) : (ax_f_bas m).toInt = ((s 55).toInt.toNat : Int) ∧ (s 55).toInt.toNat ≤ 24 := by
  have e : ax_f_bas m = s 55 := ax_setE h (a := 1) (j := 1) rfl (by decide)
  obtain ⟨h1, h2⟩ := b6
  rw [e]
  omega
theorem pa_max {a b : Nat} {x y : Int32} (hx : x.toInt = (a : Int)) (hy : y.toInt = (b : Int)) : (ax_f_max x y).toInt = ((max a b : Nat) : Int) := by
  rw [ax_f_max]
  split
  · rename_i h
    have := Int32.lt_iff_toInt_lt.mp h
    omega
  · rename_i h
    have : ¬ x.toInt < y.toInt := fun q => h (Int32.lt_iff_toInt_lt.mpr q)
    omega
theorem pk_r73 {s : Nat → Int32} {m m' : Nat → Nat → Int32} {w l : Nat} (hr : pk_r s m) (h10 : (s 0).toInt ≤ 10) (hl : (l : Int) < (s 0).toInt) (e : (m' 73 (w * 10 + l)).toInt = ((pn_v s (pl_up (l - w + 1) w) 0 (s 55).toInt.toNat).1 : Int)) (f : ∀ x y, ¬ (x = 73 ∧ y = w * 10 + l) → m' x y = m x y) : pk_r s m' := by
  intro a c h1 h2
  refine ⟨?_, ?_⟩
  · by_cases q : a = w ∧ c = l
    · obtain ⟨rfl, rfl⟩ := q
      exact Or.inr e
    · have hne : ¬ a * 10 + c = w * 10 + l := by omega
      rw [f 73 _ (fun z => hne z.2)]
      exact (hr a c h1 h2).1
  · rw [f 74 _ (fun z => absurd z.1 (by decide))]
    exact (hr a c h1 h2).2
theorem pk_r74 {s : Nat → Int32} {m m' : Nat → Nat → Int32} {w l : Nat} (hr : pk_r s m) (h10 : (s 0).toInt ≤ 10) (hl : (l : Int) < (s 0).toInt) (e : (m' 74 (w * 10 + l)).toInt = ((pn_v s (pl_dn (l - w + 1) l) 0 (s 55).toInt.toNat).1 : Int)) (f : ∀ x y, ¬ (x = 74 ∧ y = w * 10 + l) → m' x y = m x y) : pk_r s m' := by
  intro a c h1 h2
  refine ⟨?_, ?_⟩
  · rw [f 73 _ (fun z => absurd z.1 (by decide))]
    exact (hr a c h1 h2).1
  · by_cases q : a = w ∧ c = l
    · obtain ⟨rfl, rfl⟩ := q
      exact Or.inr e
    · have hne : ¬ a * 10 + c = w * 10 + l := by omega
      rw [f 74 _ (fun z => hne z.2)]
      exact (hr a c h1 h2).2
theorem ax_muL (G : sx_G0 g L xs z9 hd_C ex_mt) {s : Nat → Int32} {A Q : Nat} {a c : Int32} (b : pn_B s) (bw : pl_W s) (b6 : pl_B6 s) (ea : a.toInt = (A : Int)) (ec : c.toInt = (Q : Int)) (hAL : A ≤ Q) (hL : (Q : Int) < (s 0).toInt) {H : Nat} {post : Option (Option Value) → am_S → Prop} : ∀ (n K : Nat) (w : Int32) (σ : am_S), ax_S σ → pc_X s σ → pg_K s H σ.2.1 → pk_r s σ.2.1 → K + n = Q - A + 1 → w.toInt = (Q : Int) - (K : Int) → pr_T s (pl_up K (Q + 1 - K)) (min (s 55).toInt.toNat (pv_U (pn_of s) (pl_up K (Q + 1 - K)))) H σ.2.1 → pz_hide (1 ≤ K → (σ.2.1 73 ((Q + 1 - K) * 10 + Q)).toInt = ((pn_v s (pl_up K (Q + 1 - K)) 0 (s 55).toInt.toNat).1 : Int)) → (∀ σ' : am_S, ax_S σ' → (∀ x y, x ≠ 70 → x ≠ 73 → x ≠ 78 → x ≠ 79 → ¬ (x = 68 ∧ y = 15) → σ'.2.1 x y = σ.2.1 x y) → σ'.2.2.1 = σ.2.2.1 → pk_r s σ'.2.1 → (σ'.2.1 73 (A * 10 + Q)).toInt = ((pn_v s (pl_up (Q - A + 1) A) 0 (s 55).toInt.toNat).1 : Int) → post (some none) σ') → am_K g 6 tX4_measureUp.1 0 0 6 [(3, .int w), (0, .ref 68), (1, .int a), (2, .int c)] [] σ post := by
  have h10 := b.1.1.2
  intro n
  induction n with
  | zero =>
    intro K w σ hS hX hg hr hn ew ht hlast kk
    refine kr_iload_n 0 rd_d_X4_measureUp_6 rfl ?_
    refine kr_iload_n 2 rd_d_X4_measureUp_7 rfl ?_
    refine kr_icmp_lt (tgt := 55) rd_d_X4_measureUp_8 rfl (fun h1 => ?_) (fun h1 => ?_)
    · refine kr_return rd_d_X4_measureUp_55 rfl (kk σ hS (fun _ _ _ _ _ _ _ => rfl) rfl hr ?_)
      have h := (show 1 ≤ K → _ from hlast) (by omega)
      rw [show Q + 1 - K = A by omega, show K = Q - A + 1 by omega] at h
      exact h
    · exact absurd (Int32.lt_iff_toInt_lt.mpr (by omega)) h1
  | succ n ih =>
    intro K w σ hS hX hg hr hn ew ht hlast kk
    refine kr_iload_n 0 rd_d_X4_measureUp_6 rfl ?_
    refine kr_iload_n 2 rd_d_X4_measureUp_7 rfl ?_
    refine kr_icmp_lt (tgt := 55) rd_d_X4_measureUp_8 rfl (fun h21 => ?_) (fun h21 => ?_)
    · have := Int32.lt_iff_toInt_lt.mp h21
      omega
    · have hw : w.toInt = (((Q - K) : Nat) : Int) := by omega
      have hW : (((Q - K) : Nat) : Int) < (s 0).toInt := by omega
      have hKQ : K ≤ Q := by omega
      have hbs := pa_bas hX.1 b6
      have hvm : ∀ v ∈ pl_up K (Q + 1 - K), (v : Int) < (s 0).toInt := fun v hv => by have := pl_up_m _ _ hv; omega
      have hl : (Q - K) :: pl_up K (Q + 1 - K) = pl_up (K + 1) (Q - K) := by show _ = (Q - K) :: pl_up K (Q - K + 1); rw [show Q - K + 1 = Q + 1 - K by omega]
      refine kr_aload_n 1 rd_d_X4_measureUp_11 rfl ?_
      refine kr_iload_n 0 rd_d_X4_measureUp_12 rfl ?_
      refine kr_aload_n 1 rd_d_X4_measureUp_13 rfl ?_
      refine kr_getf G.1 (rd_FL rd_k_X4_measureUp_14).1 rd_d_X4_measureUp_14 (hS.1 68 (.inl 4) rfl) (v := .ref 4) (by unfold am_fa; rw [(rd_FL rd_k_X4_measureUp_14).2]; exact hS.2 68 0 4 rfl) ?_
      refine rd_call G (T2 := tX9_basket) rfl rd_d_X4_measureUp_17 rd_k_X4_measureUp_17 rfl (hS.1 4 (.inl 9) rfl) (as := []) (st := [.int w, .ref 68]) rfl (Nat.le_of_ble_eq_true rfl) rfl (Nat.le_of_ble_eq_true rfl) (d1 := 2) (by decide) (fun _ h => by cases h.1) (ax_bas G hS) ?_
      intro v41 σ41 ⟨hv41, hs41⟩
      cases hv41
      rw [hs41]
      refine kr_iconst (v := 1) rd_d_X4_measureUp_20 (by decide) ?_
      refine kr_iconst (v := 0) rd_d_X4_measureUp_21 (by decide) ?_
      refine rd_call G (T2 := tX4_putAhead) rfl rd_d_X4_measureUp_22 rd_k_X4_measureUp_22 rfl (hS.1 68 (.inl 4) rfl) (as := [.int w, .int (ax_f_bas σ.2.1), .int 1, .int 0]) (st := []) rfl (Nat.le_of_ble_eq_true rfl) rfl (Nat.le_of_ble_eq_true rfl) (d1 := 5) (by decide) (fun _ h => by cases h.1) (ax_pa G hS b bw hX.1 hw hW hvm rfl (mfn := (s 55).toInt.toNat) (mf := ax_f_bas σ.2.1) hbs.1 hbs.2 hg ht (UP := 1) (up := 1) rfl (by decide) (CH := fun _ _ _ => True) (fun _ => trivial) (fun _ _ _ _ _ _ _ _ _ _ => trivial) (LM := fun _ l => l = σ.2.2.1) (fun T l ch _ h _ => by rw [if_pos rfl]; exact h) rfl) ?_
      intro v1 σ1 ⟨hv1, hS1, hfA, hrA, hlA, ht1⟩
      cases hv1
      rw [hl] at ht1
      have hX1 : pc_X s σ1 := pc_F hX (fun x y q => hfA x y (by omega) (by omega) (by omega) (fun z => by omega))
      have hb1 := pa_bas hX1.1 b6
      have eix : (w * 10 + c).toInt = (((Q - K) * 10 + Q : Nat) : Int) := ch_add (ch_mul hw (y := 10) (b := 10) rfl (A := 10) (B := 10) (by omega) (Nat.le_refl _) (by decide)) ec (by omega)
      refine kr_aload_n 1 rd_d_X4_measureUp_25 rfl ?_
      refine kr_getf G.1 (rd_FL rd_k_X4_measureUp_26).1 rd_d_X4_measureUp_26 (hS1.1 68 (.inl 4) rfl) (v := .ref 73) (by unfold am_fa; rw [(rd_FL rd_k_X4_measureUp_26).2]; exact hS1.2 68 5 73 rfl) ?_
      refine kr_iload_n 0 rd_d_X4_measureUp_29 rfl ?_
      refine kr_bipush (v := 10) rd_d_X4_measureUp_30 (by decide) ?_
      refine kr_imul rd_d_X4_measureUp_32 ?_
      refine kr_iload_n 3 rd_d_X4_measureUp_33 rfl ?_
      refine kr_iadd rd_d_X4_measureUp_34 ?_
      refine kr_aload_n 1 rd_d_X4_measureUp_35 rfl ?_
      refine kr_aload_n 1 rd_d_X4_measureUp_36 rfl ?_
      refine kr_getf G.1 (rd_FL rd_k_X4_measureUp_37).1 rd_d_X4_measureUp_37 (hS1.1 68 (.inl 4) rfl) (v := .ref 4) (by unfold am_fa; rw [(rd_FL rd_k_X4_measureUp_37).2]; exact hS1.2 68 0 4 rfl) ?_
      refine rd_call G (T2 := tX9_basket) rfl rd_d_X4_measureUp_40 rd_k_X4_measureUp_40 rfl (hS1.1 4 (.inl 9) rfl) (as := []) (st := [.ref 68, .int ((w * 10) + c), .ref 73]) rfl (Nat.le_of_ble_eq_true rfl) rfl (Nat.le_of_ble_eq_true rfl) (d1 := 2) (by decide) (fun _ h => by cases h.1) (ax_bas G hS1) ?_
      intro v42 σ42 ⟨hv42, hs42⟩
      cases hv42
      rw [hs42]
      refine rd_call G (T2 := tX4_gainInAll) rfl rd_d_X4_measureUp_43 rd_k_X4_measureUp_43 rfl (hS1.1 68 (.inl 4) rfl) (as := [.int (ax_f_bas σ1.2.1)]) (st := [.int ((w * 10) + c), .ref 73]) rfl (Nat.le_of_ble_eq_true rfl) rfl (Nat.le_of_ble_eq_true rfl) (d1 := 3) (by decide) (fun _ h => by cases h.1) (ax_gia G hS1 (ax_f_bas σ1.2.1)) ?_
      intro v43 σ43 ⟨hv43, hs43⟩
      cases hv43
      rw [hs43]
      refine rd_callS G (T2 := tX11_put) rfl rd_d_X4_measureUp_46 rd_k_X4_measureUp_46 rfl rfl (as := [.ref 73, .int ((w * 10) + c), .int (ax_f_gia σ1.2.1 (ax_f_bas σ1.2.1))]) (st := []) rfl (Nat.le_of_ble_eq_true rfl) rfl (Nat.le_of_ble_eq_true rfl) (d1 := 1) (by decide) (fun _ h => by cases h.1) (ax_putA G hS1 (n := 100) (hS1.1 73 (.inr (.int, 100)) rfl) (by decide) (ix := (Q - K) * 10 + Q) eix (by omega)) ?_
      intro vvτ1 τ1 ⟨hvvτ1, hT1, hw1, hf1, hl1⟩
      cases hvvτ1
      have hsτ1 : τ1.2.1 120 = σ1.2.1 120 := (ax_120F hf1 (by decide))
      have hqτ1 : ax_pl τ1.2.1 = ax_pl σ1.2.1 := (ax_plF hf1 (by decide))
      have hLτ1 : τ1.2.2 = σ1.2.2 := hl1
      refine kr_iinc (v := w + (-1)) (lv' := [(3, .int (w + (-1))), (0, .ref 68), (1, .int a), (2, .int c)]) 0 rd_d_X4_measureUp_49 rfl rfl (by decide) rfl ?_
      refine kr_goto (tgt := 6) rd_d_X4_measureUp_52 rfl ?_
      refine kr_sub (lv' := [(3, .int (w + (-1))), (0, .ref 68), (1, .int a), (2, .int c)]) (by simp) ?_
      have hv : (τ1.2.1 73 ((Q - K) * 10 + Q)).toInt = ((pn_v s (pl_up (K + 1) (Q - K)) 0 (s 55).toInt.toNat).1 : Int) := by rw [hw1]; exact pr_gia ht1 rfl hb1.2 (Nat.le_refl _) hb1.1 hg.1.2
      have ed := mu_a hw hKQ
      have e1 : Q + 1 - (K + 1) = Q - K := Nat.add_sub_add_right Q 1 K
      have hrA9 : pk_r s σ1.2.1 := pk_rF hr (fun y => ⟨hfA 73 y (by decide) (by decide) (by decide) (fun q => absurd q.1 (by decide)), hfA 74 y (by decide) (by decide) (by decide) (fun q => absurd q.1 (by decide))⟩)
      have hrB : pk_r s τ1.2.1 := pk_r73 hrA9 h10 hL (by rw [Nat.sub_sub_self hKQ]; exact hv) hf1
      refine ih (K + 1) (w + (-1)) τ1 hT1 (pc_F hX1 (fun x y q => hf1 x y (fun z => by omega))) (pg_F (pg_F hg (fun x y q => hfA x y (by omega) (by omega) (by omega) (fun z => by omega))) (fun x y q => hf1 x y (fun z => by omega))) hrB (by omega) ed ?_ ?_ ?_
      · rw [e1]
        exact ⟨by rw [hf1 68 15 (fun q => absurd q.1 (by decide))]; exact ht1.1, fun y x q1 q2 => by rw [hf1 70 _ (fun q => absurd q.1 (by decide))]; exact ht1.2 y x q1 q2⟩
      · refine (show 1 ≤ K + 1 → _ from fun _ => ?_)
        rw [e1]
        exact hv
      · exact fun σ' a1 a2 a3 a4 a5 => kk σ' a1 (fun x y x0 x3 x8 x9 hx => (a2 x y x0 x3 x8 x9 hx).trans ((hf1 x y (fun z => x3 z.1)).trans (hfA x y x0 x8 x9 hx))) (a3.trans ((congrArg Prod.fst hLτ1).trans hlA)) a4 a5
theorem ax_mu (G : sx_G0 g L xs z9 hd_C ex_mt) {s : Nat → Int32} {A Q : Nat} {a c : Int32} (b : pn_B s) (bw : pl_W s) (b6 : pl_B6 s) (ea : a.toInt = (A : Int)) (ec : c.toInt = (Q : Int)) (hAL : A ≤ Q) (hL : (Q : Int) < (s 0).toInt) {H : Nat} {σ : am_S} (hS : ax_S σ) (hX : pc_X s σ) (hg : pg_K s H σ.2.1) (hr : pk_r s σ.2.1) : am_K g 6 tX4_measureUp.1 0 0 0 (lv_args 0 [.ref 68, .int a, .int c]) [] σ (fun r σ' => r = some none ∧ ax_S σ' ∧ (∀ x y, x ≠ 70 → x ≠ 73 → x ≠ 78 → x ≠ 79 → ¬ (x = 68 ∧ y = 15) → σ'.2.1 x y = σ.2.1 x y) ∧ σ'.2.2.1 = σ.2.2.1 ∧ pk_r s σ'.2.1 ∧ (σ'.2.1 73 (A * 10 + Q)).toInt = ((pn_v s (pl_up (Q - A + 1) A) 0 (s 55).toInt.toNat).1 : Int)) := by
  refine kr_aload_n 0 rd_d_X4_measureUp_0 rfl ?_
  refine rd_call G (T2 := tX4_clearRests) rfl rd_d_X4_measureUp_1 rd_k_X4_measureUp_1 rfl (hS.1 68 (.inl 4) rfl) (as := []) (st := []) rfl (Nat.le_of_ble_eq_true rfl) rfl (Nat.le_of_ble_eq_true rfl) (d1 := 2) (by decide) (fun _ h => by cases h.1) (ax_clr G hS) ?_
  intro v1 σ1 ⟨hv1, hS1, hu1, hz1, hf1, hl1⟩
  cases hv1
  refine kr_iload_n 2 rd_d_X4_measureUp_4 rfl ?_
  refine kr_istore_n (lv' := [(3, .int c), (0, .ref 68), (1, .int a), (2, .int c)]) rd_d_X4_measureUp_5 (by decide) rfl ?_
  refine ax_muL G b bw b6 ea ec hAL hL (H := H) (Q - A + 1) 0 _ σ1 hS1 (pc_F hX (fun x y q => hf1 x y (by omega) (fun z => by omega))) (pg_F hg (fun x y q => hf1 x y (by omega) (fun z => by omega))) (pk_rF hr (fun y => ⟨hf1 73 y (by decide) (fun q => absurd q.1 (by decide)), hf1 74 y (by decide) (fun q => absurd q.1 (by decide))⟩)) (by omega) (by omega) ?_ (show (1 ≤ 0 → _) from fun h => absurd h (by decide)) ?_
  · rw [show min (s 55).toInt.toNat (pv_U (pn_of s) (pl_up 0 (Q + 1 - 0))) = 0 from Nat.min_zero _]
    exact pr_T0 s hg.1.1 hu1 hz1
  · exact fun σ' a1 a2 a3 a4 a5 => ⟨rfl, a1, fun x y x0 x3 x8 x9 hx => (a2 x y x0 x3 x8 x9 hx).trans (hf1 x y x0 hx), a3.trans (congrArg Prod.fst hl1), a4, a5⟩
theorem ax_mdL (G : sx_G0 g L xs z9 hd_C ex_mt) {s : Nat → Int32} {A Q : Nat} {a c : Int32} (b : pn_B s) (bw : pl_W s) (b6 : pl_B6 s) (ea : a.toInt = (A : Int)) (ec : c.toInt = (Q : Int)) (hAL : A ≤ Q) (hL : (Q : Int) < (s 0).toInt) {H : Nat} {post : Option (Option Value) → am_S → Prop} : ∀ (n K : Nat) (w : Int32) (σ : am_S), ax_S σ → pc_X s σ → pg_K s H σ.2.1 → pk_r s σ.2.1 → K + n = Q - A + 1 → w.toInt = (A : Int) + (K : Int) → pr_T s (pl_dn K (A + K - 1)) (min (s 55).toInt.toNat (pv_U (pn_of s) (pl_dn K (A + K - 1)))) H σ.2.1 → pz_hide (1 ≤ K → (σ.2.1 74 (A * 10 + (A + K - 1))).toInt = ((pn_v s (pl_dn K (A + K - 1)) 0 (s 55).toInt.toNat).1 : Int)) → (∀ σ' : am_S, ax_S σ' → (∀ x y, x ≠ 70 → x ≠ 74 → x ≠ 78 → x ≠ 79 → ¬ (x = 68 ∧ y = 15) → σ'.2.1 x y = σ.2.1 x y) → σ'.2.2.1 = σ.2.2.1 → pk_r s σ'.2.1 → (σ'.2.1 74 (A * 10 + Q)).toInt = ((pn_v s (pl_dn (Q - A + 1) Q) 0 (s 55).toInt.toNat).1 : Int) → post (some none) σ') → am_K g 6 tX4_measureDown.1 0 0 6 [(3, .int w), (0, .ref 68), (1, .int a), (2, .int c)] [] σ post := by
  have h10 := b.1.1.2
  intro n
  induction n with
  | zero =>
    intro K w σ hS hX hg hr hn ew ht hlast kk
    refine kr_iload_n 0 rd_d_X4_measureDown_6 rfl ?_
    refine kr_iload_n 3 rd_d_X4_measureDown_7 rfl ?_
    refine kr_icmp_gt (tgt := 55) rd_d_X4_measureDown_8 rfl (fun h1 => ?_) (fun h1 => ?_)
    · refine kr_return rd_d_X4_measureDown_55 rfl (kk σ hS (fun _ _ _ _ _ _ _ => rfl) rfl hr ?_)
      have h := (show 1 ≤ K → _ from hlast) (by omega)
      rw [show A + K - 1 = Q by omega, show K = Q - A + 1 by omega] at h
      exact h
    · exact absurd (Int32.lt_iff_toInt_lt.mpr (by omega)) h1
  | succ n ih =>
    intro K w σ hS hX hg hr hn ew ht hlast kk
    refine kr_iload_n 0 rd_d_X4_measureDown_6 rfl ?_
    refine kr_iload_n 3 rd_d_X4_measureDown_7 rfl ?_
    refine kr_icmp_gt (tgt := 55) rd_d_X4_measureDown_8 rfl (fun h21 => ?_) (fun h21 => ?_)
    · have := Int32.lt_iff_toInt_lt.mp h21
      omega
    · have hw : w.toInt = (((A + K) : Nat) : Int) := by omega
      have hW : (((A + K) : Nat) : Int) < (s 0).toInt := by omega
      have hKA : A + K < 100000 := by omega
      have hbs := pa_bas hX.1 b6
      have hvm : ∀ v ∈ pl_dn K (A + K - 1), (v : Int) < (s 0).toInt := fun v hv => by have := pl_dn_m _ _ hv; omega
      have hl : (A + K) :: pl_dn K (A + K - 1) = pl_dn (K + 1) (A + K) := rfl
      refine kr_aload_n 1 rd_d_X4_measureDown_11 rfl ?_
      refine kr_iload_n 0 rd_d_X4_measureDown_12 rfl ?_
      refine kr_aload_n 1 rd_d_X4_measureDown_13 rfl ?_
      refine kr_getf G.1 (rd_FL rd_k_X4_measureDown_14).1 rd_d_X4_measureDown_14 (hS.1 68 (.inl 4) rfl) (v := .ref 4) (by unfold am_fa; rw [(rd_FL rd_k_X4_measureDown_14).2]; exact hS.2 68 0 4 rfl) ?_
      refine rd_call G (T2 := tX9_basket) rfl rd_d_X4_measureDown_17 rd_k_X4_measureDown_17 rfl (hS.1 4 (.inl 9) rfl) (as := []) (st := [.int w, .ref 68]) rfl (Nat.le_of_ble_eq_true rfl) rfl (Nat.le_of_ble_eq_true rfl) (d1 := 2) (by decide) (fun _ h => by cases h.1) (ax_bas G hS) ?_
      intro v41 σ41 ⟨hv41, hs41⟩
      cases hv41
      rw [hs41]
      refine kr_iconst (v := 0) rd_d_X4_measureDown_20 (by decide) ?_
      refine kr_iconst (v := 0) rd_d_X4_measureDown_21 (by decide) ?_
      refine rd_call G (T2 := tX4_putAhead) rfl rd_d_X4_measureDown_22 rd_k_X4_measureDown_22 rfl (hS.1 68 (.inl 4) rfl) (as := [.int w, .int (ax_f_bas σ.2.1), .int 0, .int 0]) (st := []) rfl (Nat.le_of_ble_eq_true rfl) rfl (Nat.le_of_ble_eq_true rfl) (d1 := 5) (by decide) (fun _ h => by cases h.1) (ax_pa G hS b bw hX.1 hw hW hvm rfl (mfn := (s 55).toInt.toNat) (mf := ax_f_bas σ.2.1) hbs.1 hbs.2 hg ht (UP := 0) (up := 0) rfl (by decide) (CH := fun _ _ _ => True) (fun _ => trivial) (fun _ _ _ _ _ _ _ _ _ _ => trivial) (LM := fun _ l => l = σ.2.2.1) (fun T l ch _ h _ => by rw [if_pos rfl]; exact h) rfl) ?_
      intro v1 σ1 ⟨hv1, hS1, hfA, hrA, hlA, ht1⟩
      cases hv1
      rw [hl] at ht1
      have hX1 : pc_X s σ1 := pc_F hX (fun x y q => hfA x y (by omega) (by omega) (by omega) (fun z => by omega))
      have hb1 := pa_bas hX1.1 b6
      have eix : (a * 10 + w).toInt = ((A * 10 + (A + K) : Nat) : Int) := ch_add (ch_mul ea (y := 10) (b := 10) rfl (A := 10) (B := 10) (by omega) (Nat.le_refl _) (by decide)) hw (by omega)
      refine kr_aload_n 1 rd_d_X4_measureDown_25 rfl ?_
      refine kr_getf G.1 (rd_FL rd_k_X4_measureDown_26).1 rd_d_X4_measureDown_26 (hS1.1 68 (.inl 4) rfl) (v := .ref 74) (by unfold am_fa; rw [(rd_FL rd_k_X4_measureDown_26).2]; exact hS1.2 68 6 74 rfl) ?_
      refine kr_iload_n 2 rd_d_X4_measureDown_29 rfl ?_
      refine kr_bipush (v := 10) rd_d_X4_measureDown_30 (by decide) ?_
      refine kr_imul rd_d_X4_measureDown_32 ?_
      refine kr_iload_n 0 rd_d_X4_measureDown_33 rfl ?_
      refine kr_iadd rd_d_X4_measureDown_34 ?_
      refine kr_aload_n 1 rd_d_X4_measureDown_35 rfl ?_
      refine kr_aload_n 1 rd_d_X4_measureDown_36 rfl ?_
      refine kr_getf G.1 (rd_FL rd_k_X4_measureDown_37).1 rd_d_X4_measureDown_37 (hS1.1 68 (.inl 4) rfl) (v := .ref 4) (by unfold am_fa; rw [(rd_FL rd_k_X4_measureDown_37).2]; exact hS1.2 68 0 4 rfl) ?_
      refine rd_call G (T2 := tX9_basket) rfl rd_d_X4_measureDown_40 rd_k_X4_measureDown_40 rfl (hS1.1 4 (.inl 9) rfl) (as := []) (st := [.ref 68, .int ((a * 10) + w), .ref 74]) rfl (Nat.le_of_ble_eq_true rfl) rfl (Nat.le_of_ble_eq_true rfl) (d1 := 2) (by decide) (fun _ h => by cases h.1) (ax_bas G hS1) ?_
      intro v42 σ42 ⟨hv42, hs42⟩
      cases hv42
      rw [hs42]
      refine rd_call G (T2 := tX4_gainInAll) rfl rd_d_X4_measureDown_43 rd_k_X4_measureDown_43 rfl (hS1.1 68 (.inl 4) rfl) (as := [.int (ax_f_bas σ1.2.1)]) (st := [.int ((a * 10) + w), .ref 74]) rfl (Nat.le_of_ble_eq_true rfl) rfl (Nat.le_of_ble_eq_true rfl) (d1 := 3) (by decide) (fun _ h => by cases h.1) (ax_gia G hS1 (ax_f_bas σ1.2.1)) ?_
      intro v43 σ43 ⟨hv43, hs43⟩
      cases hv43
      rw [hs43]
      refine rd_callS G (T2 := tX11_put) rfl rd_d_X4_measureDown_46 rd_k_X4_measureDown_46 rfl rfl (as := [.ref 74, .int ((a * 10) + w), .int (ax_f_gia σ1.2.1 (ax_f_bas σ1.2.1))]) (st := []) rfl (Nat.le_of_ble_eq_true rfl) rfl (Nat.le_of_ble_eq_true rfl) (d1 := 1) (by decide) (fun _ h => by cases h.1) (ax_putA G hS1 (n := 100) (hS1.1 74 (.inr (.int, 100)) rfl) (by decide) (ix := A * 10 + (A + K)) eix (by omega)) ?_
      intro vvτ1 τ1 ⟨hvvτ1, hT1, hw1, hf1, hl1⟩
      cases hvvτ1
      have hsτ1 : τ1.2.1 120 = σ1.2.1 120 := (ax_120F hf1 (by decide))
      have hqτ1 : ax_pl τ1.2.1 = ax_pl σ1.2.1 := (ax_plF hf1 (by decide))
      have hLτ1 : τ1.2.2 = σ1.2.2 := hl1
      refine kr_iinc (v := w + 1) (lv' := [(3, .int (w + 1)), (0, .ref 68), (1, .int a), (2, .int c)]) 0 rd_d_X4_measureDown_49 rfl rfl (by decide) rfl ?_
      refine kr_goto (tgt := 6) rd_d_X4_measureDown_52 rfl ?_
      refine kr_sub (lv' := [(3, .int (w + 1)), (0, .ref 68), (1, .int a), (2, .int c)]) (by simp) ?_
      have hv : (τ1.2.1 74 (A * 10 + (A + K))).toInt = ((pn_v s (pl_dn (K + 1) (A + K)) 0 (s 55).toInt.toNat).1 : Int) := by rw [hw1]; exact pr_gia ht1 rfl hb1.2 (Nat.le_refl _) hb1.1 hg.1.2
      have ed := md_a hw hKA
      have e1 : A + (K + 1) - 1 = A + K := rfl
      have hrA9 : pk_r s σ1.2.1 := pk_rF hr (fun y => ⟨hfA 73 y (by decide) (by decide) (by decide) (fun q => absurd q.1 (by decide)), hfA 74 y (by decide) (by decide) (by decide) (fun q => absurd q.1 (by decide))⟩)
      have hrB : pk_r s τ1.2.1 := pk_r74 hrA9 h10 hW (by rw [Nat.add_sub_cancel_left]; exact hv) hf1
      refine ih (K + 1) (w + 1) τ1 hT1 (pc_F hX1 (fun x y q => hf1 x y (fun z => by omega))) (pg_F (pg_F hg (fun x y q => hfA x y (by omega) (by omega) (by omega) (fun z => by omega))) (fun x y q => hf1 x y (fun z => by omega))) hrB (by omega) ed ?_ ?_ ?_
      · rw [e1]
        exact ⟨by rw [hf1 68 15 (fun q => absurd q.1 (by decide))]; exact ht1.1, fun y x q1 q2 => by rw [hf1 70 _ (fun q => absurd q.1 (by decide))]; exact ht1.2 y x q1 q2⟩
      · refine (show 1 ≤ K + 1 → _ from fun _ => ?_)
        rw [e1]
        exact hv
      · exact fun σ' a1 a2 a3 a4 a5 => kk σ' a1 (fun x y x0 x3 x8 x9 hx => (a2 x y x0 x3 x8 x9 hx).trans ((hf1 x y (fun z => x3 z.1)).trans (hfA x y x0 x8 x9 hx))) (a3.trans ((congrArg Prod.fst hLτ1).trans hlA)) a4 a5
theorem ax_md (G : sx_G0 g L xs z9 hd_C ex_mt) {s : Nat → Int32} {A Q : Nat} {a c : Int32} (b : pn_B s) (bw : pl_W s) (b6 : pl_B6 s) (ea : a.toInt = (A : Int)) (ec : c.toInt = (Q : Int)) (hAL : A ≤ Q) (hL : (Q : Int) < (s 0).toInt) {H : Nat} {σ : am_S} (hS : ax_S σ) (hX : pc_X s σ) (hg : pg_K s H σ.2.1) (hr : pk_r s σ.2.1) : am_K g 6 tX4_measureDown.1 0 0 0 (lv_args 0 [.ref 68, .int a, .int c]) [] σ (fun r σ' => r = some none ∧ ax_S σ' ∧ (∀ x y, x ≠ 70 → x ≠ 74 → x ≠ 78 → x ≠ 79 → ¬ (x = 68 ∧ y = 15) → σ'.2.1 x y = σ.2.1 x y) ∧ σ'.2.2.1 = σ.2.2.1 ∧ pk_r s σ'.2.1 ∧ (σ'.2.1 74 (A * 10 + Q)).toInt = ((pn_v s (pl_dn (Q - A + 1) Q) 0 (s 55).toInt.toNat).1 : Int)) := by
  refine kr_aload_n 0 rd_d_X4_measureDown_0 rfl ?_
  refine rd_call G (T2 := tX4_clearRests) rfl rd_d_X4_measureDown_1 rd_k_X4_measureDown_1 rfl (hS.1 68 (.inl 4) rfl) (as := []) (st := []) rfl (Nat.le_of_ble_eq_true rfl) rfl (Nat.le_of_ble_eq_true rfl) (d1 := 2) (by decide) (fun _ h => by cases h.1) (ax_clr G hS) ?_
  intro v1 σ1 ⟨hv1, hS1, hu1, hz1, hf1, hl1⟩
  cases hv1
  refine kr_iload_n 1 rd_d_X4_measureDown_4 rfl ?_
  refine kr_istore_n (lv' := [(3, .int a), (0, .ref 68), (1, .int a), (2, .int c)]) rd_d_X4_measureDown_5 (by decide) rfl ?_
  refine ax_mdL G b bw b6 ea ec hAL hL (H := H) (Q - A + 1) 0 _ σ1 hS1 (pc_F hX (fun x y q => hf1 x y (by omega) (fun z => by omega))) (pg_F hg (fun x y q => hf1 x y (by omega) (fun z => by omega))) (pk_rF hr (fun y => ⟨hf1 73 y (by decide) (fun q => absurd q.1 (by decide)), hf1 74 y (by decide) (fun q => absurd q.1 (by decide))⟩)) (by omega) (by omega) ?_ (show (1 ≤ 0 → _) from fun h => absurd h (by decide)) ?_
  · rw [show min (s 55).toInt.toNat (pv_U (pn_of s) (pl_dn 0 (A + 0 - 1))) = 0 from Nat.min_zero _]
    exact pr_T0 s hg.1.1 hu1 hz1
  · exact fun σ' a1 a2 a3 a4 a5 => ⟨rfl, a1, fun x y x0 x3 x8 x9 hx => (a2 x y x0 x3 x8 x9 hx).trans (hf1 x y x0 hx), a3.trans (congrArg Prod.fst hl1), a4, a5⟩
/-- what one gains who has the windows from A to Q for himself -/
def pz_rg (s : Nat → Int32) (A Q : Nat) : Nat := max (pn_v s (pl_up (Q - A + 1) A) 0 (s 55).toInt.toNat).1 (pn_v s (pl_dn (Q - A + 1) Q) 0 (s 55).toInt.toNat).1
def pz_g (s : Nat → Int32) (a c : Int32) : Nat := if ax_f_win s a = 0 then 0 else if ax_f_win s c = 0 then 0 else if a ≤ c then pz_rg s a.toInt.toNat c.toInt.toNat else 0
theorem ax_rg72 (G : sx_G0 g L xs z9 hd_C ex_mt) {s : Nat → Int32} {A Q H : Nat} {a c ix : Int32} (b : pn_B s) (bw : pl_W s) (b6 : pl_B6 s) (ea : a.toInt = (A : Int)) (ec : c.toInt = (Q : Int)) (eix : ix.toInt = ((A * 10 + Q : Nat) : Int)) (hAL : A ≤ Q) (hL : (Q : Int) < (s 0).toInt) {σ : am_S} (hS : ax_S σ) (hX : pc_X s σ) (hg : pg_K s H σ.2.1) (hr : pk_r s σ.2.1) (hu : (σ.2.1 73 (A * 10 + Q)).toInt = ((pn_v s (pl_up (Q - A + 1) A) 0 (s 55).toInt.toNat).1 : Int)) (hd : (σ.2.1 74 (A * 10 + Q)).toInt = ((pn_v s (pl_dn (Q - A + 1) Q) 0 (s 55).toInt.toNat).1 : Int)) {post : Option (Option Value) → am_S → Prop} (kk : ∀ (z : Int32) (σ' : am_S), ax_S σ' → (∀ x y, x ≠ 70 → x ≠ 73 → x ≠ 74 → x ≠ 78 → x ≠ 79 → ¬ (x = 68 ∧ y = 15) → σ'.2.1 x y = σ.2.1 x y) → σ'.2.2.1 = σ.2.2.1 → pk_r s σ'.2.1 → z.toInt = (pz_rg s A Q : Int) → post (some (some (.int z))) σ') : am_K g 7 tX4_rowGain.1 0 0 72 [(3, .int ix), (0, .ref 68), (1, .int a), (2, .int c)] [] σ post := by
  have h10 := b.1.1.2
  refine kr_aload_n 1 rd_d_X4_rowGain_72 rfl ?_
  refine kr_getf G.1 (rd_FL rd_k_X4_rowGain_73).1 rd_d_X4_rowGain_73 (hS.1 68 (.inl 4) rfl) (v := .ref 73) (by unfold am_fa; rw [(rd_FL rd_k_X4_rowGain_73).2]; exact hS.2 68 5 73 rfl) ?_
  refine kr_iload_n 0 rd_d_X4_rowGain_76 rfl ?_
  refine rd_callS G (T2 := tX11_entry) rfl rd_d_X4_rowGain_77 rd_k_X4_rowGain_77 rfl rfl (as := [.ref 73, .int ix]) (st := []) rfl (Nat.le_of_ble_eq_true rfl) rfl (Nat.le_of_ble_eq_true rfl) (d1 := 1) (by decide) (fun _ h => by cases h.1) (ax_entry G (hS.1 73 (.inr (.int, 100)) rfl) (by decide) ix) ?_
  intro v1 σ1 ⟨hv1, hs1⟩
  cases hv1
  rw [hs1]
  refine kr_aload_n 1 rd_d_X4_rowGain_80 rfl ?_
  refine kr_getf G.1 (rd_FL rd_k_X4_rowGain_81).1 rd_d_X4_rowGain_81 (hS.1 68 (.inl 4) rfl) (v := .ref 74) (by unfold am_fa; rw [(rd_FL rd_k_X4_rowGain_81).2]; exact hS.2 68 6 74 rfl) ?_
  refine kr_iload_n 0 rd_d_X4_rowGain_84 rfl ?_
  refine rd_callS G (T2 := tX11_entry) rfl rd_d_X4_rowGain_85 rd_k_X4_rowGain_85 rfl rfl (as := [.ref 74, .int ix]) (st := [.int (ax_ent (σ.2.1 73) 100 ix)]) rfl (Nat.le_of_ble_eq_true rfl) rfl (Nat.le_of_ble_eq_true rfl) (d1 := 1) (by decide) (fun _ h => by cases h.1) (ax_entry G (hS.1 74 (.inr (.int, 100)) rfl) (by decide) ix) ?_
  intro v2 σ2 ⟨hv2, hs2⟩
  cases hv2
  rw [hs2]
  refine kr_mmax G.1 (ex_mem_ok (show ex_mem 327731 (Cond.methodLink tX4_rowGain.1.1.cls 192 Lib.Math.max.name) = true from rd_k_X4_rowGain_88)) rd_d_X4_rowGain_88 (by decide) (Nat.le_of_ble_eq_true rfl) ?_
  show am_K g 7 tX4_rowGain.1 0 0 91 [(3, .int ix), (0, .ref 68), (1, .int a), (2, .int c)] [.int (ax_f_max (ax_ent (σ.2.1 73) 100 ix) (ax_ent (σ.2.1 74) 100 ix))] σ _
  refine kr_ireturn rd_d_X4_rowGain_91 (ty := .int) rfl rfl (kk _ σ hS (fun _ _ _ _ _ _ _ _ => rfl) rfl hr ?_)
  rw [ax_ent_in (k := A * 10 + Q) (by decide) eix (by omega), ax_ent_in (k := A * 10 + Q) (by decide) eix (by omega)]
  exact pa_max hu hd
theorem ax_rg54 (G : sx_G0 g L xs z9 hd_C ex_mt) {s : Nat → Int32} {A Q H : Nat} {a c ix : Int32} (b : pn_B s) (bw : pl_W s) (b6 : pl_B6 s) (ea : a.toInt = (A : Int)) (ec : c.toInt = (Q : Int)) (eix : ix.toInt = ((A * 10 + Q : Nat) : Int)) (hAL : A ≤ Q) (hL : (Q : Int) < (s 0).toInt) {σ : am_S} (hS : ax_S σ) (hX : pc_X s σ) (hg : pg_K s H σ.2.1) (hr : pk_r s σ.2.1) (hu : (σ.2.1 73 (A * 10 + Q)).toInt = ((pn_v s (pl_up (Q - A + 1) A) 0 (s 55).toInt.toNat).1 : Int)) {post : Option (Option Value) → am_S → Prop} (kk : ∀ (z : Int32) (σ' : am_S), ax_S σ' → (∀ x y, x ≠ 70 → x ≠ 73 → x ≠ 74 → x ≠ 78 → x ≠ 79 → ¬ (x = 68 ∧ y = 15) → σ'.2.1 x y = σ.2.1 x y) → σ'.2.2.1 = σ.2.2.1 → pk_r s σ'.2.1 → z.toInt = (pz_rg s A Q : Int) → post (some (some (.int z))) σ') : am_K g 7 tX4_rowGain.1 0 0 54 [(3, .int ix), (0, .ref 68), (1, .int a), (2, .int c)] [] σ post := by
  have h10 := b.1.1.2
  have z : ((-1 : Int32)).toInt = -1 := rfl
  have hent : ax_ent (σ.2.1 74) 100 ix = σ.2.1 74 (A * 10 + Q) := ax_ent_in (by decide) eix (by omega)
  refine kr_aload_n 1 rd_d_X4_rowGain_54 rfl ?_
  refine kr_getf G.1 (rd_FL rd_k_X4_rowGain_55).1 rd_d_X4_rowGain_55 (hS.1 68 (.inl 4) rfl) (v := .ref 74) (by unfold am_fa; rw [(rd_FL rd_k_X4_rowGain_55).2]; exact hS.2 68 6 74 rfl) ?_
  refine kr_iload_n 0 rd_d_X4_rowGain_58 rfl ?_
  refine rd_callS G (T2 := tX11_entry) rfl rd_d_X4_rowGain_59 rd_k_X4_rowGain_59 rfl rfl (as := [.ref 74, .int ix]) (st := []) rfl (Nat.le_of_ble_eq_true rfl) rfl (Nat.le_of_ble_eq_true rfl) (d1 := 1) (by decide) (fun _ h => by cases h.1) (ax_entry G (hS.1 74 (.inr (.int, 100)) rfl) (by decide) ix) ?_
  intro v11 σ11 ⟨hv11, hs11⟩
  cases hv11
  rw [hs11]
  refine kr_iconst (v := (-1)) rd_d_X4_rowGain_62 (by decide) ?_
  refine kr_icmp_ne (tgt := 72) rd_d_X4_rowGain_63 rfl (fun h12 => ?_) (fun h12 => ?_)
  · refine kr_sub (lv' := [(3, .int ix), (0, .ref 68), (1, .int a), (2, .int c)]) (by simp) ?_
    have hd := ((hr A Q hAL hL).2).resolve_left (fun e => h12 (by rw [hent]; exact Int32.toInt_inj.mp (by rw [e, z])))
    exact ax_rg72 G b bw b6 ea ec eix hAL hL hS hX hg hr hu hd kk
  · refine kr_aload_n 1 rd_d_X4_rowGain_66 rfl ?_
    refine kr_iload_n 2 rd_d_X4_rowGain_67 rfl ?_
    refine kr_iload_n 3 rd_d_X4_rowGain_68 rfl ?_
    refine rd_call G (T2 := tX4_measureDown) rfl rd_d_X4_rowGain_69 rd_k_X4_rowGain_69 rfl (hS.1 68 (.inl 4) rfl) (as := [.int a, .int c]) (st := []) rfl (Nat.le_of_ble_eq_true rfl) rfl (Nat.le_of_ble_eq_true rfl) (d1 := 6) (by decide) (fun _ h => by cases h.1) (ax_md G b bw b6 ea ec hAL hL hS hX hg hr) ?_
    intro v1 σ1 ⟨hv1, hS1, hf1, hl1, hr1, hv2⟩
    cases hv1
    have hX1 : pc_X s σ1 := pc_F hX (fun x y q => hf1 x y (by omega) (by omega) (by omega) (by omega) (fun z => by omega))
    have hg1 : pg_K s H σ1.2.1 := pg_F hg (fun x y q => hf1 x y (by omega) (by omega) (by omega) (by omega) (fun z => by omega))
    refine kr_sub (lv' := [(3, .int ix), (0, .ref 68), (1, .int a), (2, .int c)]) (by simp) ?_
    exact ax_rg72 G b bw b6 ea ec eix hAL hL hS1 hX1 hg1 hr1 (by rw [hf1 73 _ (by decide) (by decide) (by decide) (by decide) (fun q => absurd q.1 (by decide))]; exact hu) hv2 (fun z σ' a1 a2 a3 a4 a5 => kk z σ' a1 (fun x y x0 x3 x4 x8 x9 hx => (a2 x y x0 x3 x4 x8 x9 hx).trans (hf1 x y x0 x4 x8 x9 hx)) (a3.trans hl1) a4 a5)
theorem ax_rg36 (G : sx_G0 g L xs z9 hd_C ex_mt) {s : Nat → Int32} {A Q H : Nat} {a c ix : Int32} (b : pn_B s) (bw : pl_W s) (b6 : pl_B6 s) (ea : a.toInt = (A : Int)) (ec : c.toInt = (Q : Int)) (eix : ix.toInt = ((A * 10 + Q : Nat) : Int)) (hAL : A ≤ Q) (hL : (Q : Int) < (s 0).toInt) {σ : am_S} (hS : ax_S σ) (hX : pc_X s σ) (hg : pg_K s H σ.2.1) (hr : pk_r s σ.2.1) {post : Option (Option Value) → am_S → Prop} (kk : ∀ (z : Int32) (σ' : am_S), ax_S σ' → (∀ x y, x ≠ 70 → x ≠ 73 → x ≠ 74 → x ≠ 78 → x ≠ 79 → ¬ (x = 68 ∧ y = 15) → σ'.2.1 x y = σ.2.1 x y) → σ'.2.2.1 = σ.2.2.1 → pk_r s σ'.2.1 → z.toInt = (pz_rg s A Q : Int) → post (some (some (.int z))) σ') : am_K g 7 tX4_rowGain.1 0 0 36 [(3, .int ix), (0, .ref 68), (1, .int a), (2, .int c)] [] σ post := by
  have h10 := b.1.1.2
  have z : ((-1 : Int32)).toInt = -1 := rfl
  have hent : ax_ent (σ.2.1 73) 100 ix = σ.2.1 73 (A * 10 + Q) := ax_ent_in (by decide) eix (by omega)
  refine kr_aload_n 1 rd_d_X4_rowGain_36 rfl ?_
  refine kr_getf G.1 (rd_FL rd_k_X4_rowGain_37).1 rd_d_X4_rowGain_37 (hS.1 68 (.inl 4) rfl) (v := .ref 73) (by unfold am_fa; rw [(rd_FL rd_k_X4_rowGain_37).2]; exact hS.2 68 5 73 rfl) ?_
  refine kr_iload_n 0 rd_d_X4_rowGain_40 rfl ?_
  refine rd_callS G (T2 := tX11_entry) rfl rd_d_X4_rowGain_41 rd_k_X4_rowGain_41 rfl rfl (as := [.ref 73, .int ix]) (st := []) rfl (Nat.le_of_ble_eq_true rfl) rfl (Nat.le_of_ble_eq_true rfl) (d1 := 1) (by decide) (fun _ h => by cases h.1) (ax_entry G (hS.1 73 (.inr (.int, 100)) rfl) (by decide) ix) ?_
  intro v11 σ11 ⟨hv11, hs11⟩
  cases hv11
  rw [hs11]
  refine kr_iconst (v := (-1)) rd_d_X4_rowGain_44 (by decide) ?_
  refine kr_icmp_ne (tgt := 54) rd_d_X4_rowGain_45 rfl (fun h12 => ?_) (fun h12 => ?_)
  · refine kr_sub (lv' := [(3, .int ix), (0, .ref 68), (1, .int a), (2, .int c)]) (by simp) ?_
    have hu := ((hr A Q hAL hL).1).resolve_left (fun e => h12 (by rw [hent]; exact Int32.toInt_inj.mp (by rw [e, z])))
    exact ax_rg54 G b bw b6 ea ec eix hAL hL hS hX hg hr hu kk
  · refine kr_aload_n 1 rd_d_X4_rowGain_48 rfl ?_
    refine kr_iload_n 2 rd_d_X4_rowGain_49 rfl ?_
    refine kr_iload_n 3 rd_d_X4_rowGain_50 rfl ?_
    refine rd_call G (T2 := tX4_measureUp) rfl rd_d_X4_rowGain_51 rd_k_X4_rowGain_51 rfl (hS.1 68 (.inl 4) rfl) (as := [.int a, .int c]) (st := []) rfl (Nat.le_of_ble_eq_true rfl) rfl (Nat.le_of_ble_eq_true rfl) (d1 := 6) (by decide) (fun _ h => by cases h.1) (ax_mu G b bw b6 ea ec hAL hL hS hX hg hr) ?_
    intro v1 σ1 ⟨hv1, hS1, hf1, hl1, hr1, hv2⟩
    cases hv1
    have hX1 : pc_X s σ1 := pc_F hX (fun x y q => hf1 x y (by omega) (by omega) (by omega) (by omega) (fun z => by omega))
    have hg1 : pg_K s H σ1.2.1 := pg_F hg (fun x y q => hf1 x y (by omega) (by omega) (by omega) (by omega) (fun z => by omega))
    refine kr_sub (lv' := [(3, .int ix), (0, .ref 68), (1, .int a), (2, .int c)]) (by simp) ?_
    exact ax_rg54 G b bw b6 ea ec eix hAL hL hS1 hX1 hg1 hr1 hv2 (fun z σ' a1 a2 a3 a4 a5 => kk z σ' a1 (fun x y x0 x3 x4 x8 x9 hx => (a2 x y x0 x3 x4 x8 x9 hx).trans (hf1 x y x0 x3 x8 x9 hx)) (a3.trans hl1) a4 a5)
theorem ax_rg (G : sx_G0 g L xs z9 hd_C ex_mt) {s : Nat → Int32} {H : Nat} {a c : Int32} (b : pn_B s) (bw : pl_W s) (b6 : pl_B6 s) {σ : am_S} (hS : ax_S σ) (hX : pc_X s σ) (hg : pg_K s H σ.2.1) (hr : pk_r s σ.2.1) : am_K g 7 tX4_rowGain.1 0 0 0 (lv_args 0 [.ref 68, .int a, .int c]) [] σ (fun r σ' => (∃ z : Int32, r = some (some (.int z)) ∧ z.toInt = (pz_g s a c : Int)) ∧ ax_S σ' ∧ (∀ x y, x ≠ 70 → x ≠ 73 → x ≠ 74 → x ≠ 78 → x ≠ 79 → ¬ (x = 68 ∧ y = 15) → σ'.2.1 x y = σ.2.1 x y) ∧ σ'.2.2.1 = σ.2.2.1 ∧ pk_r s σ'.2.1) := by
  refine kr_aload_n 0 rd_d_X4_rowGain_0 rfl ?_
  refine kr_getf G.1 (rd_FL rd_k_X4_rowGain_1).1 rd_d_X4_rowGain_1 (hS.1 68 (.inl 4) rfl) (v := .ref 4) (by unfold am_fa; rw [(rd_FL rd_k_X4_rowGain_1).2]; exact hS.2 68 0 4 rfl) ?_
  refine kr_iload_n 1 rd_d_X4_rowGain_4 rfl ?_
  refine rd_call G (T2 := tX9_has) rfl rd_d_X4_rowGain_5 rd_k_X4_rowGain_5 rfl (hS.1 4 (.inl 9) rfl) (as := [.int a]) (st := []) rfl (Nat.le_of_ble_eq_true rfl) rfl (Nat.le_of_ble_eq_true rfl) (d1 := 1) (by decide) (fun _ h => by cases h.1) (ax_has G hS a) ?_
  intro v1 σ1 ⟨hv1, hs1⟩
  cases hv1
  rw [hs1]
  refine kr_if_eq (tgt := 27) rd_d_X4_rowGain_8 rfl (fun h2 => ?_) (fun h2 => ?_)
  · refine kr_iconst (v := 0) rd_d_X4_rowGain_27 (by decide) ?_
    refine kr_ireturn rd_d_X4_rowGain_28 (ty := .int) rfl rfl ⟨⟨_, rfl, ?_⟩, hS, fun _ _ _ _ _ _ _ _ => rfl, rfl, hr⟩
    rw [pz_g, ← ax_hasE hX.1 b.1 a, ← ax_hasE hX.1 b.1 c, if_pos h2]
    rfl
  · refine kr_aload_n 0 rd_d_X4_rowGain_11 rfl ?_
    refine kr_getf G.1 (rd_FL rd_k_X4_rowGain_12).1 rd_d_X4_rowGain_12 (hS.1 68 (.inl 4) rfl) (v := .ref 4) (by unfold am_fa; rw [(rd_FL rd_k_X4_rowGain_12).2]; exact hS.2 68 0 4 rfl) ?_
    refine kr_iload_n 2 rd_d_X4_rowGain_15 rfl ?_
    refine rd_call G (T2 := tX9_has) rfl rd_d_X4_rowGain_16 rd_k_X4_rowGain_16 rfl (hS.1 4 (.inl 9) rfl) (as := [.int c]) (st := []) rfl (Nat.le_of_ble_eq_true rfl) rfl (Nat.le_of_ble_eq_true rfl) (d1 := 1) (by decide) (fun _ h => by cases h.1) (ax_has G hS c) ?_
    intro v3 σ3 ⟨hv3, hs3⟩
    cases hv3
    rw [hs3]
    refine kr_if_eq (tgt := 27) rd_d_X4_rowGain_19 rfl (fun h4 => ?_) (fun h4 => ?_)
    · refine kr_iconst (v := 0) rd_d_X4_rowGain_27 (by decide) ?_
      refine kr_ireturn rd_d_X4_rowGain_28 (ty := .int) rfl rfl ⟨⟨_, rfl, ?_⟩, hS, fun _ _ _ _ _ _ _ _ => rfl, rfl, hr⟩
      rw [pz_g, ← ax_hasE hX.1 b.1 a, ← ax_hasE hX.1 b.1 c, if_neg h2, if_pos h4]
      rfl
    · refine kr_iload_n 1 rd_d_X4_rowGain_22 rfl ?_
      refine kr_iload_n 2 rd_d_X4_rowGain_23 rfl ?_
      refine kr_icmp_le (tgt := 29) rd_d_X4_rowGain_24 rfl (fun h5 => ?_) (fun h5 => ?_)
      · have h10 := b.1.1.2
        have hA := ax_winI b.1 (a := a) (by rw [← ax_hasE hX.1 b.1]; exact h2)
        have hC := ax_winI b.1 (a := c) (by rw [← ax_hasE hX.1 b.1]; exact h4)
        have hle := Int32.le_iff_toInt_le.mp h5
        have ea : a.toInt = ((a.toInt.toNat : Nat) : Int) := by omega
        have ec : c.toInt = ((c.toInt.toNat : Nat) : Int) := by omega
        have eix : (a * 10 + c).toInt = ((a.toInt.toNat * 10 + c.toInt.toNat : Nat) : Int) := ch_add (ch_mul ea (y := 10) (b := 10) rfl (A := 10) (B := 10) (by omega) (Nat.le_refl _) (by decide)) ec (by omega)
        refine kr_iload_n 1 rd_d_X4_rowGain_29 rfl ?_
        refine kr_bipush (v := 10) rd_d_X4_rowGain_30 (by decide) ?_
        refine kr_imul rd_d_X4_rowGain_32 ?_
        refine kr_iload_n 2 rd_d_X4_rowGain_33 rfl ?_
        refine kr_iadd rd_d_X4_rowGain_34 ?_
        refine kr_istore_n (lv' := [(3, .int ((a * 10) + c)), (0, .ref 68), (1, .int a), (2, .int c)]) rd_d_X4_rowGain_35 (by decide) rfl ?_
        refine ax_rg36 G b bw b6 ea ec eix (by omega) (by omega) hS hX hg hr (fun z σ' a1 a2 a3 a4 a5 => ⟨⟨z, rfl, ?_⟩, a1, a2, a3, a4⟩)
        rw [pz_g, ← ax_hasE hX.1 b.1 a, ← ax_hasE hX.1 b.1 c, if_neg h2, if_neg h4, if_pos h5]
        exact a5
      · refine kr_iconst (v := 0) rd_d_X4_rowGain_27 (by decide) ?_
        refine kr_ireturn rd_d_X4_rowGain_28 (ty := .int) rfl rfl ⟨⟨_, rfl, ?_⟩, hS, fun _ _ _ _ _ _ _ _ => rfl, rfl, hr⟩
        rw [pz_g, ← ax_hasE hX.1 b.1 a, ← ax_hasE hX.1 b.1 c, if_neg h2, if_neg h4, if_neg h5]
        rfl
end AXX
