/-! exact answers (rows written by a program) -/
theorem ax_inc {k : Int32} {j : Nat} (h : k.toInt = (j : Int)) (hj : j < 100000) : (k + 1).toInt = ((j + 1 : Nat) : Int) := by
  have z1 : (1 : Int32).toInt = 1 := rfl
  rw [sx_addI k 1 (by show (-2147483648 : Int) ≤ _; omega) (by show _ ≤ (2147483647 : Int); omega)]
  omega
theorem ax_ixn {c w : Int32} {C : Nat} (hc : c.toInt = C) (hC : C < 1000) (hw : 0 ≤ w.toInt ∧ w.toInt < 1000) : (c + w).toInt = ((C + w.toInt.toNat : Nat) : Int) := by
  rw [sx_addI c w (by show (-2147483648 : Int) ≤ _; omega) (by show _ ≤ (2147483647 : Int); omega)]
  omega
theorem ax_lkc {a o df : Int} {r : List (Int × Int)} {x A : Int32} (hA : A.toInt = a) (h : ¬ x = A) : Op.lookupswitch.offset ((a, o) :: r) df x.toInt = Op.lookupswitch.offset r df x.toInt := by
  rw [Op.lookupswitch.offset_cons, if_neg (fun e => h (Int32.toInt_inj.mp (by rw [hA, ← e])))]
theorem ax_dec {k : Int32} {f : Nat} (h : k.toInt = ((f + 1 : Nat) : Int) - 1) : (k + (-1)).toInt = (f : Int) - 1 := by
  have z1 : ((-1 : Int32)).toInt = -1 := rfl
  have := Int32.toInt_lt k
  rw [sx_addI k (-1) (by show (-2147483648 : Int) ≤ _; omega) (by show _ ≤ (2147483647 : Int); omega)]
  omega
theorem ax_dec0 {k : Int32} {f : Nat} (h : k.toInt = ((f + 1 : Nat) : Int)) : (k + (-1)).toInt = (f : Int) := by
  have z1 : ((-1 : Int32)).toInt = -1 := rfl
  have := Int32.toInt_lt k
  rw [sx_addI k (-1) (by show (-2147483648 : Int) ≤ _; omega) (by show _ ≤ (2147483647 : Int); omega)]
  omega
def ax_f_max (x y : Int32) : Int32 := if x < y then y else x
theorem ax_isIn_b (a b c : Int32) : narrow .boolean (.int (ax_f_isIn a b c)) = .int (ax_f_isIn a b c) := by
  rw [ax_f_isIn]
  split
  · rfl
  · split <;> rfl
theorem ax_ixc {w : Int32} {n : Nat} (h : w.toInt = (n : Int)) : w.toInt = ((w.toInt.toNat : Nat) : Int) := by omega
theorem rd_d_X9_has_0 : decode tX9_has.1.2.1 0 = .ok (.iload_n 1, 1) := by decide +kernel
theorem rd_d_X9_has_1 : decode tX9_has.1.2.1 1 = .ok (.ifCond .lt 15, 3) := by decide +kernel
theorem rd_d_X9_has_4 : decode tX9_has.1.2.1 4 = .ok (.iload_n 1, 1) := by decide +kernel
theorem rd_d_X9_has_5 : decode tX9_has.1.2.1 5 = .ok (.aload_n 0, 1) := by decide +kernel
theorem rd_d_X9_has_6 : decode tX9_has.1.2.1 6 = .ok (.getfield 39, 3) := by decide +kernel
theorem rd_k_X9_has_6 : ex_lk ex_mt tX9_has 6 (.getfield 39) [9, 7, 0, 65656] = true := by decide +kernel
theorem rd_d_X9_has_9 : decode tX9_has.1.2.1 9 = .ok (.if_icmp .ge 7, 3) := by decide +kernel
theorem rd_d_X9_has_12 : decode tX9_has.1.2.1 12 = .ok (.iconst 1, 1) := by decide +kernel
theorem rd_d_X9_has_13 : decode tX9_has.1.2.1 13 = .ok (.goto 4, 3) := by decide +kernel
theorem rd_d_X9_has_16 : decode tX9_has.1.2.1 16 = .ok (.iconst 0, 1) := by decide +kernel
theorem rd_d_X9_has_17 : decode tX9_has.1.2.1 17 = .ok (.ireturn, 1) := by decide +kernel
theorem rd_d_X12_isWindow_0 : decode tX12_isWindow.1.2.1 0 = .ok (.iload_n 1, 1) := by decide +kernel
theorem rd_d_X12_isWindow_1 : decode tX12_isWindow.1.2.1 1 = .ok (.iconst 0, 1) := by decide +kernel
theorem rd_d_X12_isWindow_2 : decode tX12_isWindow.1.2.1 2 = .ok (.aload_n 0, 1) := by decide +kernel
theorem rd_d_X12_isWindow_3 : decode tX12_isWindow.1.2.1 3 = .ok (.getfield 33, 3) := by decide +kernel
theorem rd_k_X12_isWindow_3 : ex_lk ex_mt tX12_isWindow 3 (.getfield 33) [12, 6, 2, 458773] = true := by decide +kernel
theorem rd_d_X12_isWindow_6 : decode tX12_isWindow.1.2.1 6 = .ok (.iconst 0, 1) := by decide +kernel
theorem rd_d_X12_isWindow_7 : decode tX12_isWindow.1.2.1 7 = .ok (.iaload, 1) := by decide +kernel
theorem rd_d_X12_isWindow_8 : decode tX12_isWindow.1.2.1 8 = .ok (.iconst 1, 1) := by decide +kernel
theorem rd_d_X12_isWindow_9 : decode tX12_isWindow.1.2.1 9 = .ok (.isub, 1) := by decide +kernel
theorem rd_d_X12_isWindow_10 : decode tX12_isWindow.1.2.1 10 = .ok (.invokestatic 134, 3) := by decide +kernel
theorem rd_k_X12_isWindow_10 : ex_lk ex_mt tX12_isWindow 10 (.invokestatic 134) [0, 119, 458953] = true := by decide +kernel
theorem rd_d_X12_isWindow_13 : decode tX12_isWindow.1.2.1 13 = .ok (.ireturn, 1) := by decide +kernel
theorem rd_d_X11_share_0 : decode tX11_share.1.2.1 0 = .ok (.aload_n 0, 1) := by decide +kernel
theorem rd_d_X11_share_1 : decode tX11_share.1.2.1 1 = .ok (.getfield 28, 3) := by decide +kernel
theorem rd_k_X11_share_1 : ex_lk ex_mt tX11_share 1 (.getfield 28) [11, 2, 2, 131261] = true := by decide +kernel
theorem rd_d_X11_share_4 : decode tX11_share.1.2.1 4 = .ok (.iload_n 1, 1) := by decide +kernel
theorem rd_d_X11_share_5 : decode tX11_share.1.2.1 5 = .ok (.invokevirtual 147, 3) := by decide +kernel
theorem rd_k_X11_share_5 : ex_lk ex_mt tX11_share 5 (.invokevirtual 147) [0, 293, 262148] = true := by decide +kernel
theorem rd_d_X11_share_8 : decode tX11_share.1.2.1 8 = .ok (.ifCond .eq 14, 3) := by decide +kernel
theorem rd_d_X11_share_11 : decode tX11_share.1.2.1 11 = .ok (.aload_n 0, 1) := by decide +kernel
theorem rd_d_X11_share_12 : decode tX11_share.1.2.1 12 = .ok (.getfield 28, 3) := by decide +kernel
theorem rd_k_X11_share_12 : ex_lk ex_mt tX11_share 12 (.getfield 28) [11, 2, 2, 131261] = true := by decide +kernel
theorem rd_d_X11_share_15 : decode tX11_share.1.2.1 15 = .ok (.iload_n 2, 1) := by decide +kernel
theorem rd_d_X11_share_16 : decode tX11_share.1.2.1 16 = .ok (.invokevirtual 147, 3) := by decide +kernel
theorem rd_k_X11_share_16 : ex_lk ex_mt tX11_share 16 (.invokevirtual 147) [0, 293, 262148] = true := by decide +kernel
theorem rd_d_X11_share_19 : decode tX11_share.1.2.1 19 = .ok (.ifCond .ne 5, 3) := by decide +kernel
theorem rd_d_X11_share_22 : decode tX11_share.1.2.1 22 = .ok (.iconst (-1), 1) := by decide +kernel
theorem rd_d_X11_share_23 : decode tX11_share.1.2.1 23 = .ok (.ireturn, 1) := by decide +kernel
theorem rd_d_X11_share_24 : decode tX11_share.1.2.1 24 = .ok (.iconst 0, 1) := by decide +kernel
theorem rd_d_X11_share_25 : decode tX11_share.1.2.1 25 = .ok (.istore_n 3, 1) := by decide +kernel
theorem rd_d_X11_share_26 : decode tX11_share.1.2.1 26 = .ok (.iload_n 1, 1) := by decide +kernel
theorem rd_d_X11_share_27 : decode tX11_share.1.2.1 27 = .ok (.istore 4, 2) := by decide +kernel
theorem rd_d_X11_share_29 : decode tX11_share.1.2.1 29 = .ok (.iload 4, 2) := by decide +kernel
theorem rd_d_X11_share_31 : decode tX11_share.1.2.1 31 = .ok (.aload_n 0, 1) := by decide +kernel
theorem rd_d_X11_share_32 : decode tX11_share.1.2.1 32 = .ok (.getfield 28, 3) := by decide +kernel
theorem rd_k_X11_share_32 : ex_lk ex_mt tX11_share 32 (.getfield 28) [11, 2, 2, 131261] = true := by decide +kernel
theorem rd_d_X11_share_35 : decode tX11_share.1.2.1 35 = .ok (.getfield 291, 3) := by decide +kernel
theorem rd_k_X11_share_35 : ex_lk ex_mt tX11_share 35 (.getfield 291) [9, 7, 0, 65659] = true := by decide +kernel
theorem rd_d_X11_share_38 : decode tX11_share.1.2.1 38 = .ok (.if_icmp .ge 33, 3) := by decide +kernel
theorem rd_d_X11_share_41 : decode tX11_share.1.2.1 41 = .ok (.iload 4, 2) := by decide +kernel
theorem rd_d_X11_share_43 : decode tX11_share.1.2.1 43 = .ok (.iload_n 2, 1) := by decide +kernel
theorem rd_d_X11_share_44 : decode tX11_share.1.2.1 44 = .ok (.if_icmp .gt 14, 3) := by decide +kernel
theorem rd_d_X11_share_47 : decode tX11_share.1.2.1 47 = .ok (.iload 4, 2) := by decide +kernel
theorem rd_d_X11_share_49 : decode tX11_share.1.2.1 49 = .ok (.iload_n 1, 1) := by decide +kernel
theorem rd_d_X11_share_50 : decode tX11_share.1.2.1 50 = .ok (.isub, 1) := by decide +kernel
theorem rd_d_X11_share_51 : decode tX11_share.1.2.1 51 = .ok (.iload_n 2, 1) := by decide +kernel
theorem rd_d_X11_share_52 : decode tX11_share.1.2.1 52 = .ok (.iload 4, 2) := by decide +kernel
theorem rd_d_X11_share_54 : decode tX11_share.1.2.1 54 = .ok (.isub, 1) := by decide +kernel
theorem rd_d_X11_share_55 : decode tX11_share.1.2.1 55 = .ok (.if_icmp .gt 10, 3) := by decide +kernel
theorem rd_d_X11_share_58 : decode tX11_share.1.2.1 58 = .ok (.iload_n 3, 1) := by decide +kernel
theorem rd_d_X11_share_59 : decode tX11_share.1.2.1 59 = .ok (.iconst 1, 1) := by decide +kernel
theorem rd_d_X11_share_60 : decode tX11_share.1.2.1 60 = .ok (.iload 4, 2) := by decide +kernel
theorem rd_d_X11_share_62 : decode tX11_share.1.2.1 62 = .ok (.ishl, 1) := by decide +kernel
theorem rd_d_X11_share_63 : decode tX11_share.1.2.1 63 = .ok (.ior, 1) := by decide +kernel
theorem rd_d_X11_share_64 : decode tX11_share.1.2.1 64 = .ok (.istore_n 3, 1) := by decide +kernel
theorem rd_d_X11_share_65 : decode tX11_share.1.2.1 65 = .ok (.iinc 4 1, 3) := by decide +kernel
theorem rd_d_X11_share_68 : decode tX11_share.1.2.1 68 = .ok (.goto (-39), 3) := by decide +kernel
theorem rd_d_X11_share_71 : decode tX11_share.1.2.1 71 = .ok (.iload_n 3, 1) := by decide +kernel
theorem rd_d_X11_share_72 : decode tX11_share.1.2.1 72 = .ok (.ireturn, 1) := by decide +kernel
theorem rd_d_X12_share_0 : decode tX12_share.1.2.1 0 = .ok (.aload_n 0, 1) := by decide +kernel
theorem rd_d_X12_share_1 : decode tX12_share.1.2.1 1 = .ok (.iconst 0, 1) := by decide +kernel
theorem rd_d_X12_share_2 : decode tX12_share.1.2.1 2 = .ok (.putfield 1, 3) := by decide +kernel
theorem rd_k_X12_share_2 : ex_lk ex_mt tX12_share 2 (.putfield 1) [12, 0, 0, 458767] = true := by decide +kernel
theorem rd_d_X12_share_5 : decode tX12_share.1.2.1 5 = .ok (.aload_n 0, 1) := by decide +kernel
theorem rd_d_X12_share_6 : decode tX12_share.1.2.1 6 = .ok (.iload_n 1, 1) := by decide +kernel
theorem rd_d_X12_share_7 : decode tX12_share.1.2.1 7 = .ok (.invokevirtual 214, 3) := by decide +kernel
theorem rd_k_X12_share_7 : ex_lk ex_mt tX12_share 7 (.invokevirtual 214) [0, 125, 458991] = true := by decide +kernel
theorem rd_d_X12_share_10 : decode tX12_share.1.2.1 10 = .ok (.ifCond .eq 11, 3) := by decide +kernel
theorem rd_d_X12_share_13 : decode tX12_share.1.2.1 13 = .ok (.aload_n 0, 1) := by decide +kernel
theorem rd_d_X12_share_14 : decode tX12_share.1.2.1 14 = .ok (.iload_n 2, 1) := by decide +kernel
theorem rd_d_X12_share_15 : decode tX12_share.1.2.1 15 = .ok (.invokevirtual 214, 3) := by decide +kernel
theorem rd_k_X12_share_15 : ex_lk ex_mt tX12_share 15 (.invokevirtual 214) [0, 125, 458991] = true := by decide +kernel
theorem rd_d_X12_share_18 : decode tX12_share.1.2.1 18 = .ok (.ifCond .ne 5, 3) := by decide +kernel
theorem rd_d_X12_share_21 : decode tX12_share.1.2.1 21 = .ok (.iconst (-1), 1) := by decide +kernel
theorem rd_d_X12_share_22 : decode tX12_share.1.2.1 22 = .ok (.ireturn, 1) := by decide +kernel
theorem rd_d_X12_share_23 : decode tX12_share.1.2.1 23 = .ok (.iconst 0, 1) := by decide +kernel
theorem rd_d_X12_share_24 : decode tX12_share.1.2.1 24 = .ok (.istore_n 3, 1) := by decide +kernel
theorem rd_d_X12_share_25 : decode tX12_share.1.2.1 25 = .ok (.iload_n 1, 1) := by decide +kernel
theorem rd_d_X12_share_26 : decode tX12_share.1.2.1 26 = .ok (.istore 4, 2) := by decide +kernel
theorem rd_d_X12_share_28 : decode tX12_share.1.2.1 28 = .ok (.iload 4, 2) := by decide +kernel
theorem rd_d_X12_share_30 : decode tX12_share.1.2.1 30 = .ok (.aload_n 0, 1) := by decide +kernel
theorem rd_d_X12_share_31 : decode tX12_share.1.2.1 31 = .ok (.getfield 33, 3) := by decide +kernel
theorem rd_k_X12_share_31 : ex_lk ex_mt tX12_share 31 (.getfield 33) [12, 6, 2, 458773] = true := by decide +kernel
theorem rd_d_X12_share_34 : decode tX12_share.1.2.1 34 = .ok (.iconst 0, 1) := by decide +kernel
theorem rd_d_X12_share_35 : decode tX12_share.1.2.1 35 = .ok (.iaload, 1) := by decide +kernel
theorem rd_d_X12_share_36 : decode tX12_share.1.2.1 36 = .ok (.if_icmp .ge 37, 3) := by decide +kernel
theorem rd_d_X12_share_39 : decode tX12_share.1.2.1 39 = .ok (.iload_n 3, 1) := by decide +kernel
theorem rd_d_X12_share_40 : decode tX12_share.1.2.1 40 = .ok (.iload 4, 2) := by decide +kernel
theorem rd_d_X12_share_42 : decode tX12_share.1.2.1 42 = .ok (.iload_n 2, 1) := by decide +kernel
theorem rd_d_X12_share_43 : decode tX12_share.1.2.1 43 = .ok (.if_icmp .gt 14, 3) := by decide +kernel
theorem rd_d_X12_share_46 : decode tX12_share.1.2.1 46 = .ok (.iload 4, 2) := by decide +kernel
theorem rd_d_X12_share_48 : decode tX12_share.1.2.1 48 = .ok (.iload_n 1, 1) := by decide +kernel
theorem rd_d_X12_share_49 : decode tX12_share.1.2.1 49 = .ok (.isub, 1) := by decide +kernel
theorem rd_d_X12_share_50 : decode tX12_share.1.2.1 50 = .ok (.iload_n 2, 1) := by decide +kernel
theorem rd_d_X12_share_51 : decode tX12_share.1.2.1 51 = .ok (.iload 4, 2) := by decide +kernel
theorem rd_d_X12_share_53 : decode tX12_share.1.2.1 53 = .ok (.isub, 1) := by decide +kernel
theorem rd_d_X12_share_54 : decode tX12_share.1.2.1 54 = .ok (.if_icmp .gt 10, 3) := by decide +kernel
theorem rd_d_X12_share_57 : decode tX12_share.1.2.1 57 = .ok (.iconst 1, 1) := by decide +kernel
theorem rd_d_X12_share_58 : decode tX12_share.1.2.1 58 = .ok (.iload 4, 2) := by decide +kernel
theorem rd_d_X12_share_60 : decode tX12_share.1.2.1 60 = .ok (.ishl, 1) := by decide +kernel
theorem rd_d_X12_share_61 : decode tX12_share.1.2.1 61 = .ok (.goto 4, 3) := by decide +kernel
theorem rd_d_X12_share_64 : decode tX12_share.1.2.1 64 = .ok (.iconst 0, 1) := by decide +kernel
theorem rd_d_X12_share_65 : decode tX12_share.1.2.1 65 = .ok (.ior, 1) := by decide +kernel
theorem rd_d_X12_share_66 : decode tX12_share.1.2.1 66 = .ok (.istore_n 3, 1) := by decide +kernel
theorem rd_d_X12_share_67 : decode tX12_share.1.2.1 67 = .ok (.iinc 4 1, 3) := by decide +kernel
theorem rd_d_X12_share_70 : decode tX12_share.1.2.1 70 = .ok (.goto (-42), 3) := by decide +kernel
theorem rd_d_X12_share_73 : decode tX12_share.1.2.1 73 = .ok (.iload_n 3, 1) := by decide +kernel
theorem rd_d_X12_share_74 : decode tX12_share.1.2.1 74 = .ok (.ireturn, 1) := by decide +kernel
section AXX
variable {g : am_C} {L : Nat} {xs : Nat → Int32}
def pl_Bm (σ : am_S) : Prop := (0 ≤ (σ.2.1 4 7).toInt ∧ (σ.2.1 4 7).toInt ≤ 10) ∧ (0 ≤ (σ.2.1 4 8).toInt ∧ (σ.2.1 4 8).toInt ≤ 6) ∧ pl_B (σ.2.1 120)
theorem pl_Bm_of {σe σ : am_S} {m : Nat} (hM : sx_M z9 hd_C σe m 0 σ) : pl_Bm σ := ⟨hM.2.2.1 4 7 _ _ _ rfl, hM.2.2.1 4 8 _ _ _ rfl, (pl_BM hM).1⟩
def ax_f_has (m : Nat → Nat → Int32) (a : Int32) : Int32 := if a < 0 then 0 else if (m 4 7) ≤ a then 0 else 1
theorem ax_has (G : sx_G0 g L xs z9 hd_C ex_mt) {σ : am_S} (hS : ax_S σ) (a : Int32) : am_K g 1 tX9_has.1 0 0 0 (lv_args 0 [.ref 4, .int a]) [] σ (ax_R (ax_f_has σ.2.1 a) σ) := by
  refine kr_iload_n 1 rd_d_X9_has_0 rfl ?_
  refine kr_if_lt (tgt := 16) rd_d_X9_has_1 rfl (fun h1 => ?_) (fun h1 => ?_)
  · refine kr_iconst (v := 0) rd_d_X9_has_16 (by decide) ?_
    exact kr_ireturn rd_d_X9_has_17 (ty := .boolean) rfl rfl ⟨by rw [ax_f_has, if_pos h1], rfl⟩
  · refine kr_iload_n 1 rd_d_X9_has_4 rfl ?_
    refine kr_aload_n 0 rd_d_X9_has_5 rfl ?_
    refine kr_getf G.1 (rd_FL rd_k_X9_has_6).1 rd_d_X9_has_6 (hS.1 4 (.inl 9) rfl) (v := .int (σ.2.1 4 7)) (by unfold am_fa; rw [(rd_FL rd_k_X9_has_6).2]; rfl) ?_
    refine kr_icmp_ge (tgt := 16) rd_d_X9_has_9 rfl (fun h2 => ?_) (fun h2 => ?_)
    · refine kr_iconst (v := 0) rd_d_X9_has_16 (by decide) ?_
      exact kr_ireturn rd_d_X9_has_17 (ty := .boolean) rfl rfl ⟨by rw [ax_f_has, if_neg h1, if_pos h2], rfl⟩
    · refine kr_iconst (v := 1) rd_d_X9_has_12 (by decide) ?_
      refine kr_goto (tgt := 17) rd_d_X9_has_13 rfl ?_
      exact kr_ireturn rd_d_X9_has_17 (ty := .boolean) rfl rfl ⟨by rw [ax_f_has, if_neg h1, if_neg h2], rfl⟩
def ax_f_win (s : Nat → Int32) (a : Int32) : Int32 := ax_f_isIn a 0 ((s 0) - 1)
theorem ax_win (G : sx_G0 g L xs z9 hd_C ex_mt) {σ : am_S} (hS : ax_S σ) (a : Int32) : am_K g 2 tX12_isWindow.1 0 0 0 (lv_args 0 [.ref 118, .int a]) [] σ (ax_R (ax_f_win (σ.2.1 120) a) σ) := by
  refine kr_iload_n 1 rd_d_X12_isWindow_0 rfl ?_
  refine kr_iconst (v := 0) rd_d_X12_isWindow_1 (by decide) ?_
  refine kr_aload_n 0 rd_d_X12_isWindow_2 rfl ?_
  refine kr_getf G.1 (rd_FL rd_k_X12_isWindow_3).1 rd_d_X12_isWindow_3 (hS.1 118 (.inl 12) rfl) (v := .ref 120) (by unfold am_fa; rw [(rd_FL rd_k_X12_isWindow_3).2]; exact hS.2 118 6 120 rfl) ?_
  refine kr_iconst (v := 0) rd_d_X12_isWindow_6 (by decide) ?_
  refine kr_iald G.1 (n := 277) rd_d_X12_isWindow_7 (hS.1 120 (.inr (.int, 277)) rfl) (hd_in (n := 0) (by decide) (by decide)) ?_
  rw [hd_clamp (n := 0) (by decide)]
  refine kr_iconst (v := 1) rd_d_X12_isWindow_8 (by decide) ?_
  refine kr_isub rd_d_X12_isWindow_9 ?_
  refine rd_callS G (T2 := tX12_isIn) rfl rd_d_X12_isWindow_10 rd_k_X12_isWindow_10 rfl rfl (as := [.int a, .int 0, .int ((σ.2.1 120 0) - 1)]) (st := []) rfl (Nat.le_of_ble_eq_true rfl) rfl (Nat.le_of_ble_eq_true rfl) (d1 := 1) (by decide) (fun _ h => by cases h.1) (ax_isIn G hS a 0 ((σ.2.1 120 0) - 1)) ?_
  intro v1 σ1 ⟨hv1, hs1⟩
  cases hv1
  rw [hs1]
  exact kr_ireturn rd_d_X12_isWindow_13 (ty := .boolean) rfl (ax_isIn_b _ _ _) ⟨rfl, rfl⟩
theorem ax_winI {s : Nat → Int32} (b : pl_B s) {a : Int32} (h : ¬ ax_f_win s a = 0) : 0 ≤ a.toInt ∧ a.toInt < (s 0).toInt ∧ a.toInt < 10 := by
  have z0 : (0 : Int32).toInt = 0 := rfl
  have z1 : (1 : Int32).toInt = 1 := rfl
  obtain ⟨⟨b1, b2⟩, -⟩ := b
  have e := sx_subI (s 0) 1 (by show (-2147483648 : Int) ≤ _; omega) (by show _ ≤ (2147483647 : Int); omega)
  rw [ax_f_win, ax_f_isIn] at h
  split at h
  · exact absurd rfl h
  · rename_i q1
    split at h
    · exact absurd rfl h
    · rename_i q2
      have g1 : ¬ a.toInt < 0 := fun q => q1 (Int32.lt_iff_toInt_lt.mpr (by omega))
      have g2 : ¬ (s 0 - 1).toInt < a.toInt := fun q => q2 (Int32.lt_iff_toInt_lt.mpr q)
      omega
theorem ax_win10 {s : Nat → Int32} (b : pl_B s) {a : Int32} (h : ¬ ax_f_win s a = 0) : 0 ≤ a.toInt ∧ a.toInt < 10 := ⟨(ax_winI b h).1, (ax_winI b h).2.2⟩
theorem pl_w {m : Nat → Nat → Int32} {o : Nat} {s : Nat → Int32} (h : pl_R m o s) : m o 7 = s 0 := Int32.toInt_inj.mp h.1
theorem ax_hasE {m : Nat → Nat → Int32} {s : Nat → Int32} (h : pl_R m 4 s) (b : pl_B s) (a : Int32) : ax_f_has m a = ax_f_win s a := by
  have z0 : (0 : Int32).toInt = 0 := rfl
  have z1 : (1 : Int32).toInt = 1 := rfl
  have hw := pl_w h
  obtain ⟨⟨b1, b2⟩, -⟩ := b
  have e := sx_subI (s 0) 1 (by show (-2147483648 : Int) ≤ _; omega) (by show _ ≤ (2147483647 : Int); omega)
  rw [ax_f_has, ax_f_win, ax_f_isIn, hw]
  by_cases g1 : a < 0
  · rw [if_pos g1, if_pos g1]
  · rw [if_neg g1, if_neg g1]
    by_cases g2 : s 0 ≤ a
    · rw [if_pos g2, if_pos (Int32.lt_iff_toInt_lt.mpr (by have := Int32.le_iff_toInt_le.mp g2; omega))]
    · rw [if_neg g2, if_neg (fun q => g2 (Int32.le_iff_toInt_le.mpr (by have := Int32.lt_iff_toInt_lt.mp q; omega)))]
theorem ax_rowE {m : Nat → Nat → Int32} {s : Nat → Int32} (h : pl_R m 4 s) (b : pl_B s) {a : Int32} (ha : ¬ ax_f_win s a = 0) {r : Nat} (hr : r < 4) : ax_ent (m (5 + r)) 10 a = s (rc_bs r + a.toInt.toNat) := by
  obtain ⟨a1, a2, a3⟩ := ax_winI b ha
  rw [ax_ent_in (k := a.toInt.toNat) (by decide) (by omega) (by omega)]
  have := h.2.2.2 r (by omega) a.toInt.toNat (by rw [rc_c, if_pos hr]; omega)
  rw [show 4 + 1 + r = 5 + r by omega] at this
  exact this
theorem ax_setE {m : Nat → Nat → Int32} {s : Nat → Int32} (h : pl_R m 4 s) {a : Int32} {j : Nat} (e : a.toInt = (j : Int)) (hj : j < 8) : ax_ent (m 11) 8 a = s (54 + j) := by
  rw [ax_ent_in (k := j) (by decide) e hj]
  exact h.2.2.2 6 (by decide) j hj
def ax_s_sh (m : Nat → Nat → Int32) (a b : Int32) (rec : Int32 → Int32 → Int32) (k z : Int32) : Int32 := if (m 4 7) ≤ k then z else if b < k then rec (k + 1) (z ||| (1 <<< (k &&& 31))) else if (b - k) < (k - a) then rec (k + 1) z else rec (k + 1) (z ||| (1 <<< (k &&& 31)))
def ax_l_sh (m : Nat → Nat → Int32) (a b : Int32) : Nat → Int32 → Int32 → Int32
  | 0, k, z => ax_s_sh m a b (fun _ _ => 0) k z
  | f + 1, k, z => ax_s_sh m a b (ax_l_sh m a b f) k z
theorem ax_l_sh_zero (m : Nat → Nat → Int32) (a b : Int32) (k z : Int32) : ax_l_sh m a b 0 k z = ax_s_sh m a b (fun _ _ => 0) k z := rfl
theorem ax_l_sh_succ (m : Nat → Nat → Int32) (a b : Int32) (f : Nat) (k z : Int32) : ax_l_sh m a b (f + 1) k z = ax_s_sh m a b (ax_l_sh m a b f) k z := rfl
theorem ax_lo_sh (G : sx_G0 g L xs z9 hd_C ex_mt) {σ : am_S} (hS : ax_S σ) (a b : Int32) (hb : (σ.2.1 4 7).toInt ≤ 10) : ∀ (f j : Nat) (k z : Int32), k.toInt = (j : Int) → j + f = 10 → am_K g 1 tX11_share.1 0 0 29 [(4, .int k), (3, .int z), (0, .ref 0), (1, .int a), (2, .int b)] [] σ (ax_R (ax_l_sh σ.2.1 a b f k z) σ) := by
  intro f
  induction f with
  | zero =>
    intro j k z ek hj
    refine kr_iload 0 rd_d_X11_share_29 rfl ?_
    refine kr_aload_n 2 rd_d_X11_share_31 rfl ?_
    refine kr_getf G.1 (rd_FL rd_k_X11_share_32).1 rd_d_X11_share_32 (hS.1 0 (.inl 11) rfl) (v := .ref 4) (by unfold am_fa; rw [(rd_FL rd_k_X11_share_32).2]; exact hS.2 0 2 4 rfl) ?_
    refine kr_getf G.1 (rd_FL rd_k_X11_share_35).1 rd_d_X11_share_35 (hS.1 4 (.inl 9) rfl) (v := .int (σ.2.1 4 7)) (by unfold am_fa; rw [(rd_FL rd_k_X11_share_35).2]; rfl) ?_
    refine kr_icmp_ge (tgt := 71) rd_d_X11_share_38 rfl (fun h1 => ?_) (fun h1 => ?_)
    · refine kr_iload_n 1 rd_d_X11_share_71 rfl ?_
      exact kr_ireturn rd_d_X11_share_72 (ty := .int) rfl rfl ⟨by rw [ax_l_sh_zero, ax_s_sh, if_pos h1], rfl⟩
    · exact absurd (Int32.le_iff_toInt_le.mpr (by omega)) h1
  | succ f ih =>
    intro j k z ek hj
    refine kr_iload 0 rd_d_X11_share_29 rfl ?_
    refine kr_aload_n 2 rd_d_X11_share_31 rfl ?_
    refine kr_getf G.1 (rd_FL rd_k_X11_share_32).1 rd_d_X11_share_32 (hS.1 0 (.inl 11) rfl) (v := .ref 4) (by unfold am_fa; rw [(rd_FL rd_k_X11_share_32).2]; exact hS.2 0 2 4 rfl) ?_
    refine kr_getf G.1 (rd_FL rd_k_X11_share_35).1 rd_d_X11_share_35 (hS.1 4 (.inl 9) rfl) (v := .int (σ.2.1 4 7)) (by unfold am_fa; rw [(rd_FL rd_k_X11_share_35).2]; rfl) ?_
    refine kr_icmp_ge (tgt := 71) rd_d_X11_share_38 rfl (fun h1 => ?_) (fun h1 => ?_)
    · refine kr_iload_n 1 rd_d_X11_share_71 rfl ?_
      exact kr_ireturn rd_d_X11_share_72 (ty := .int) rfl rfl ⟨by rw [ax_l_sh_succ, ax_s_sh, if_pos h1], rfl⟩
    · refine kr_iload 0 rd_d_X11_share_41 rfl ?_
      refine kr_iload_n 4 rd_d_X11_share_43 rfl ?_
      refine kr_icmp_gt (tgt := 58) rd_d_X11_share_44 rfl (fun h2 => ?_) (fun h2 => ?_)
      · refine kr_iload_n 1 rd_d_X11_share_58 rfl ?_
        refine kr_iconst (v := 1) rd_d_X11_share_59 (by decide) ?_
        refine kr_iload 0 rd_d_X11_share_60 rfl ?_
        refine kr_ishl rd_d_X11_share_62 ?_
        refine kr_ior rd_d_X11_share_63 ?_
        refine kr_istore_n (lv' := [(3, .int (z ||| (1 <<< (k &&& 31)))), (4, .int k), (0, .ref 0), (1, .int a), (2, .int b)]) rd_d_X11_share_64 (by decide) rfl ?_
        refine kr_iinc (v := k + 1) (lv' := [(4, .int (k + 1)), (3, .int (z ||| (1 <<< (k &&& 31)))), (0, .ref 0), (1, .int a), (2, .int b)]) 1 rd_d_X11_share_65 rfl rfl (by decide) rfl ?_
        refine kr_goto (tgt := 29) rd_d_X11_share_68 rfl ?_
        rw [ax_l_sh_succ, ax_s_sh, if_neg h1, if_pos h2]
        exact ih (j + 1) (k + 1) (z ||| (1 <<< (k &&& 31))) (ax_inc ek (by omega)) (by omega)
      · refine kr_iload 0 rd_d_X11_share_47 rfl ?_
        refine kr_iload_n 3 rd_d_X11_share_49 rfl ?_
        refine kr_isub rd_d_X11_share_50 ?_
        refine kr_iload_n 4 rd_d_X11_share_51 rfl ?_
        refine kr_iload 0 rd_d_X11_share_52 rfl ?_
        refine kr_isub rd_d_X11_share_54 ?_
        refine kr_icmp_gt (tgt := 65) rd_d_X11_share_55 rfl (fun h3 => ?_) (fun h3 => ?_)
        · refine kr_iinc (v := k + 1) (lv' := [(4, .int (k + 1)), (3, .int z), (0, .ref 0), (1, .int a), (2, .int b)]) 0 rd_d_X11_share_65 rfl rfl (by decide) rfl ?_
          refine kr_goto (tgt := 29) rd_d_X11_share_68 rfl ?_
          rw [ax_l_sh_succ, ax_s_sh, if_neg h1, if_neg h2, if_pos h3]
          exact ih (j + 1) (k + 1) z (ax_inc ek (by omega)) (by omega)
        · refine kr_iload_n 1 rd_d_X11_share_58 rfl ?_
          refine kr_iconst (v := 1) rd_d_X11_share_59 (by decide) ?_
          refine kr_iload 0 rd_d_X11_share_60 rfl ?_
          refine kr_ishl rd_d_X11_share_62 ?_
          refine kr_ior rd_d_X11_share_63 ?_
          refine kr_istore_n (lv' := [(3, .int (z ||| (1 <<< (k &&& 31)))), (4, .int k), (0, .ref 0), (1, .int a), (2, .int b)]) rd_d_X11_share_64 (by decide) rfl ?_
          refine kr_iinc (v := k + 1) (lv' := [(4, .int (k + 1)), (3, .int (z ||| (1 <<< (k &&& 31)))), (0, .ref 0), (1, .int a), (2, .int b)]) 1 rd_d_X11_share_65 rfl rfl (by decide) rfl ?_
          refine kr_goto (tgt := 29) rd_d_X11_share_68 rfl ?_
          rw [ax_l_sh_succ, ax_s_sh, if_neg h1, if_neg h2, if_neg h3]
          exact ih (j + 1) (k + 1) (z ||| (1 <<< (k &&& 31))) (ax_inc ek (by omega)) (by omega)
def ax_s_sm (s : Nat → Int32) (a b : Int32) (rec : Int32 → Int32 → Int32) (k z : Int32) : Int32 := if (s 0) ≤ k then z else if b < k then rec (k + 1) (z ||| (1 <<< (k &&& 31))) else if (b - k) < (k - a) then rec (k + 1) (z ||| 0) else rec (k + 1) (z ||| (1 <<< (k &&& 31)))
def ax_l_sm (s : Nat → Int32) (a b : Int32) : Nat → Int32 → Int32 → Int32
  | 0, k, z => ax_s_sm s a b (fun _ _ => 0) k z
  | f + 1, k, z => ax_s_sm s a b (ax_l_sm s a b f) k z
theorem ax_l_sm_zero (s : Nat → Int32) (a b : Int32) (k z : Int32) : ax_l_sm s a b 0 k z = ax_s_sm s a b (fun _ _ => 0) k z := rfl
theorem ax_l_sm_succ (s : Nat → Int32) (a b : Int32) (f : Nat) (k z : Int32) : ax_l_sm s a b (f + 1) k z = ax_s_sm s a b (ax_l_sm s a b f) k z := rfl
theorem ax_lo_sm (G : sx_G0 g L xs z9 hd_C ex_mt) {σ : am_S} (hS : ax_S σ) (a b : Int32) (hb : (σ.2.1 120 0).toInt ≤ 10) : ∀ (f j : Nat) (k z : Int32), k.toInt = (j : Int) → j + f = 10 → am_K g 1 tX12_share.1 0 0 28 [(4, .int k), (3, .int z), (0, .ref 118), (1, .int a), (2, .int b)] [] σ (ax_R (ax_l_sm (σ.2.1 120) a b f k z) σ) := by
  intro f
  induction f with
  | zero =>
    intro j k z ek hj
    refine kr_iload 0 rd_d_X12_share_28 rfl ?_
    refine kr_aload_n 2 rd_d_X12_share_30 rfl ?_
    refine kr_getf G.1 (rd_FL rd_k_X12_share_31).1 rd_d_X12_share_31 (hS.1 118 (.inl 12) rfl) (v := .ref 120) (by unfold am_fa; rw [(rd_FL rd_k_X12_share_31).2]; exact hS.2 118 6 120 rfl) ?_
    refine kr_iconst (v := 0) rd_d_X12_share_34 (by decide) ?_
    refine kr_iald G.1 (n := 277) rd_d_X12_share_35 (hS.1 120 (.inr (.int, 277)) rfl) (hd_in (n := 0) (by decide) (by decide)) ?_
    rw [hd_clamp (n := 0) (by decide)]
    refine kr_icmp_ge (tgt := 73) rd_d_X12_share_36 rfl (fun h1 => ?_) (fun h1 => ?_)
    · refine kr_iload_n 1 rd_d_X12_share_73 rfl ?_
      exact kr_ireturn rd_d_X12_share_74 (ty := .int) rfl rfl ⟨by rw [ax_l_sm_zero, ax_s_sm, if_pos h1], rfl⟩
    · exact absurd (Int32.le_iff_toInt_le.mpr (by omega)) h1
  | succ f ih =>
    intro j k z ek hj
    refine kr_iload 0 rd_d_X12_share_28 rfl ?_
    refine kr_aload_n 2 rd_d_X12_share_30 rfl ?_
    refine kr_getf G.1 (rd_FL rd_k_X12_share_31).1 rd_d_X12_share_31 (hS.1 118 (.inl 12) rfl) (v := .ref 120) (by unfold am_fa; rw [(rd_FL rd_k_X12_share_31).2]; exact hS.2 118 6 120 rfl) ?_
    refine kr_iconst (v := 0) rd_d_X12_share_34 (by decide) ?_
    refine kr_iald G.1 (n := 277) rd_d_X12_share_35 (hS.1 120 (.inr (.int, 277)) rfl) (hd_in (n := 0) (by decide) (by decide)) ?_
    rw [hd_clamp (n := 0) (by decide)]
    refine kr_icmp_ge (tgt := 73) rd_d_X12_share_36 rfl (fun h1 => ?_) (fun h1 => ?_)
    · refine kr_iload_n 1 rd_d_X12_share_73 rfl ?_
      exact kr_ireturn rd_d_X12_share_74 (ty := .int) rfl rfl ⟨by rw [ax_l_sm_succ, ax_s_sm, if_pos h1], rfl⟩
    · refine kr_iload_n 1 rd_d_X12_share_39 rfl ?_
      refine kr_iload 0 rd_d_X12_share_40 rfl ?_
      refine kr_iload_n 4 rd_d_X12_share_42 rfl ?_
      refine kr_icmp_gt (tgt := 57) rd_d_X12_share_43 rfl (fun h2 => ?_) (fun h2 => ?_)
      · refine kr_iconst (v := 1) rd_d_X12_share_57 (by decide) ?_
        refine kr_iload 0 rd_d_X12_share_58 rfl ?_
        refine kr_ishl rd_d_X12_share_60 ?_
        refine kr_goto (tgt := 65) rd_d_X12_share_61 rfl ?_
        refine kr_ior rd_d_X12_share_65 ?_
        refine kr_istore_n (lv' := [(3, .int (z ||| (1 <<< (k &&& 31)))), (4, .int k), (0, .ref 118), (1, .int a), (2, .int b)]) rd_d_X12_share_66 (by decide) rfl ?_
        refine kr_iinc (v := k + 1) (lv' := [(4, .int (k + 1)), (3, .int (z ||| (1 <<< (k &&& 31)))), (0, .ref 118), (1, .int a), (2, .int b)]) 1 rd_d_X12_share_67 rfl rfl (by decide) rfl ?_
        refine kr_goto (tgt := 28) rd_d_X12_share_70 rfl ?_
        rw [ax_l_sm_succ, ax_s_sm, if_neg h1, if_pos h2]
        exact ih (j + 1) (k + 1) (z ||| (1 <<< (k &&& 31))) (ax_inc ek (by omega)) (by omega)
      · refine kr_iload 0 rd_d_X12_share_46 rfl ?_
        refine kr_iload_n 3 rd_d_X12_share_48 rfl ?_
        refine kr_isub rd_d_X12_share_49 ?_
        refine kr_iload_n 4 rd_d_X12_share_50 rfl ?_
        refine kr_iload 0 rd_d_X12_share_51 rfl ?_
        refine kr_isub rd_d_X12_share_53 ?_
        refine kr_icmp_gt (tgt := 64) rd_d_X12_share_54 rfl (fun h3 => ?_) (fun h3 => ?_)
        · refine kr_iconst (v := 0) rd_d_X12_share_64 (by decide) ?_
          refine kr_ior rd_d_X12_share_65 ?_
          refine kr_istore_n (lv' := [(3, .int (z ||| 0)), (4, .int k), (0, .ref 118), (1, .int a), (2, .int b)]) rd_d_X12_share_66 (by decide) rfl ?_
          refine kr_iinc (v := k + 1) (lv' := [(4, .int (k + 1)), (3, .int (z ||| 0)), (0, .ref 118), (1, .int a), (2, .int b)]) 1 rd_d_X12_share_67 rfl rfl (by decide) rfl ?_
          refine kr_goto (tgt := 28) rd_d_X12_share_70 rfl ?_
          rw [ax_l_sm_succ, ax_s_sm, if_neg h1, if_neg h2, if_pos h3]
          exact ih (j + 1) (k + 1) (z ||| 0) (ax_inc ek (by omega)) (by omega)
        · refine kr_iconst (v := 1) rd_d_X12_share_57 (by decide) ?_
          refine kr_iload 0 rd_d_X12_share_58 rfl ?_
          refine kr_ishl rd_d_X12_share_60 ?_
          refine kr_goto (tgt := 65) rd_d_X12_share_61 rfl ?_
          refine kr_ior rd_d_X12_share_65 ?_
          refine kr_istore_n (lv' := [(3, .int (z ||| (1 <<< (k &&& 31)))), (4, .int k), (0, .ref 118), (1, .int a), (2, .int b)]) rd_d_X12_share_66 (by decide) rfl ?_
          refine kr_iinc (v := k + 1) (lv' := [(4, .int (k + 1)), (3, .int (z ||| (1 <<< (k &&& 31)))), (0, .ref 118), (1, .int a), (2, .int b)]) 1 rd_d_X12_share_67 rfl rfl (by decide) rfl ?_
          refine kr_goto (tgt := 28) rd_d_X12_share_70 rfl ?_
          rw [ax_l_sm_succ, ax_s_sm, if_neg h1, if_neg h2, if_neg h3]
          exact ih (j + 1) (k + 1) (z ||| (1 <<< (k &&& 31))) (ax_inc ek (by omega)) (by omega)
theorem ax_hasN {m : Nat → Nat → Int32} (b : 0 ≤ (m 4 7).toInt ∧ (m 4 7).toInt ≤ 10) {a : Int32} (h : ¬ ax_f_has m a = 0) : a.toInt = ((a.toInt.toNat : Nat) : Int) ∧ a.toInt.toNat + (10 - a.toInt.toNat) = 10 := by
  have z0 : (0 : Int32).toInt = 0 := rfl
  rw [ax_f_has] at h
  split at h
  · exact absurd rfl h
  · rename_i q1
    split at h
    · exact absurd rfl h
    · rename_i q2
      have g1 : ¬ a.toInt < 0 := fun q => q1 (Int32.lt_iff_toInt_lt.mpr (by omega))
      have g2 : ¬ (m 4 7).toInt ≤ a.toInt := fun q => q2 (Int32.le_iff_toInt_le.mpr q)
      omega
theorem ax_winN {s : Nat → Int32} (b : pl_B s) {a : Int32} (h : ¬ ax_f_win s a = 0) : a.toInt = ((a.toInt.toNat : Nat) : Int) ∧ a.toInt.toNat + (10 - a.toInt.toNat) = 10 := by
  have := ax_winI b h
  omega
def ax_f_shX (m : Nat → Nat → Int32) (a b : Int32) : Int32 := if (ax_f_has m a) = 0 then (-1) else if (ax_f_has m b) = 0 then (-1) else ax_l_sh m a b (10 - a.toInt.toNat) a 0
theorem ax_shX (G : sx_G0 g L xs z9 hd_C ex_mt) {σ : am_S} (hS : ax_S σ) (a b : Int32) (hb : pl_Bm σ) : am_K g 2 tX11_share.1 0 0 0 (lv_args 0 [.ref 0, .int a, .int b]) [] σ (ax_R (ax_f_shX σ.2.1 a b) σ) := by
  refine kr_aload_n 0 rd_d_X11_share_0 rfl ?_
  refine kr_getf G.1 (rd_FL rd_k_X11_share_1).1 rd_d_X11_share_1 (hS.1 0 (.inl 11) rfl) (v := .ref 4) (by unfold am_fa; rw [(rd_FL rd_k_X11_share_1).2]; exact hS.2 0 2 4 rfl) ?_
  refine kr_iload_n 1 rd_d_X11_share_4 rfl ?_
  refine rd_call G (T2 := tX9_has) rfl rd_d_X11_share_5 rd_k_X11_share_5 rfl (hS.1 4 (.inl 9) rfl) (as := [.int a]) (st := []) rfl (Nat.le_of_ble_eq_true rfl) rfl (Nat.le_of_ble_eq_true rfl) (d1 := 1) (by decide) (fun _ h => by cases h.1) (ax_has G hS a) ?_
  intro v1 σ1 ⟨hv1, hs1⟩
  cases hv1
  rw [hs1]
  refine kr_if_eq (tgt := 22) rd_d_X11_share_8 rfl (fun h2 => ?_) (fun h2 => ?_)
  · refine kr_iconst (v := (-1)) rd_d_X11_share_22 (by decide) ?_
    exact kr_ireturn rd_d_X11_share_23 (ty := .int) rfl rfl ⟨by rw [ax_f_shX, if_pos h2], rfl⟩
  · refine kr_aload_n 0 rd_d_X11_share_11 rfl ?_
    refine kr_getf G.1 (rd_FL rd_k_X11_share_12).1 rd_d_X11_share_12 (hS.1 0 (.inl 11) rfl) (v := .ref 4) (by unfold am_fa; rw [(rd_FL rd_k_X11_share_12).2]; exact hS.2 0 2 4 rfl) ?_
    refine kr_iload_n 2 rd_d_X11_share_15 rfl ?_
    refine rd_call G (T2 := tX9_has) rfl rd_d_X11_share_16 rd_k_X11_share_16 rfl (hS.1 4 (.inl 9) rfl) (as := [.int b]) (st := []) rfl (Nat.le_of_ble_eq_true rfl) rfl (Nat.le_of_ble_eq_true rfl) (d1 := 1) (by decide) (fun _ h => by cases h.1) (ax_has G hS b) ?_
    intro v3 σ3 ⟨hv3, hs3⟩
    cases hv3
    rw [hs3]
    refine kr_if_ne (tgt := 24) rd_d_X11_share_19 rfl (fun h4 => ?_) (fun h4 => ?_)
    · refine kr_iconst (v := 0) rd_d_X11_share_24 (by decide) ?_
      refine kr_istore_n (lv' := [(3, .int 0), (0, .ref 0), (1, .int a), (2, .int b)]) rd_d_X11_share_25 (by decide) rfl ?_
      refine kr_iload_n 2 rd_d_X11_share_26 rfl ?_
      refine kr_istore (lv' := [(4, .int a), (3, .int 0), (0, .ref 0), (1, .int a), (2, .int b)]) rd_d_X11_share_27 (by decide) rfl ?_
      rw [ax_f_shX, if_neg h2, if_neg h4]
      exact kr_less (by decide) (Nat.le_refl _) (Nat.le_refl _) (ax_lo_sh G hS a b hb.1.2 (10 - a.toInt.toNat) a.toInt.toNat a 0 (ax_hasN hb.1 h2).1 (ax_hasN hb.1 h2).2)
    · refine kr_iconst (v := (-1)) rd_d_X11_share_22 (by decide) ?_
      exact kr_ireturn rd_d_X11_share_23 (ty := .int) rfl rfl ⟨by rw [ax_f_shX, if_neg h2, if_pos h4], rfl⟩
def ax_f_shM (s : Nat → Int32) (a b : Int32) : Int32 := if (ax_f_win (s) a) = 0 then (-1) else if (ax_f_win (s) b) = 0 then (-1) else ax_l_sm (s) a b (10 - a.toInt.toNat) a 0
theorem ax_shM (G : sx_G0 g L xs z9 hd_C ex_mt) {σ : am_S} (hS : ax_S σ) (a b : Int32) (h1 : pl_B (σ.2.1 120)) : am_K g 3 tX12_share.1 0 0 0 (lv_args 0 [.ref 118, .int a, .int b]) [] σ (fun r _ => r = some (some (.int (ax_f_shM (σ.2.1 120) a b)))) := by
  refine ax_thr G hS rd_d_X12_share_0 rd_d_X12_share_1 rd_d_X12_share_2 rd_k_X12_share_2 rfl ?_
  intro τ hT hm hm8
  have e120 : σ.2.1 120 = τ.2.1 120 := funext fun k => (hm 120 k (by decide)).symm
  have hb := e120 ▸ h1
  refine kr_aload_n 0 rd_d_X12_share_5 rfl ?_
  refine kr_iload_n 1 rd_d_X12_share_6 rfl ?_
  refine rd_call G (T2 := tX12_isWindow) rfl rd_d_X12_share_7 rd_k_X12_share_7 rfl (hT.1 118 (.inl 12) rfl) (as := [.int a]) (st := []) rfl (Nat.le_of_ble_eq_true rfl) rfl (Nat.le_of_ble_eq_true rfl) (d1 := 2) (by decide) (fun _ h => by cases h.1) (ax_win G hT a) ?_
  intro v1 σ1 ⟨hv1, hs1⟩
  cases hv1
  rw [hs1]
  refine kr_if_eq (tgt := 21) rd_d_X12_share_10 rfl (fun h2 => ?_) (fun h2 => ?_)
  · refine kr_iconst (v := (-1)) rd_d_X12_share_21 (by decide) ?_
    exact kr_ireturn rd_d_X12_share_22 (ty := .int) rfl rfl (by rw [e120, ax_f_shM, if_pos h2])
  · refine kr_aload_n 0 rd_d_X12_share_13 rfl ?_
    refine kr_iload_n 2 rd_d_X12_share_14 rfl ?_
    refine rd_call G (T2 := tX12_isWindow) rfl rd_d_X12_share_15 rd_k_X12_share_15 rfl (hT.1 118 (.inl 12) rfl) (as := [.int b]) (st := []) rfl (Nat.le_of_ble_eq_true rfl) rfl (Nat.le_of_ble_eq_true rfl) (d1 := 2) (by decide) (fun _ h => by cases h.1) (ax_win G hT b) ?_
    intro v3 σ3 ⟨hv3, hs3⟩
    cases hv3
    rw [hs3]
    refine kr_if_ne (tgt := 23) rd_d_X12_share_18 rfl (fun h4 => ?_) (fun h4 => ?_)
    · refine kr_iconst (v := 0) rd_d_X12_share_23 (by decide) ?_
      refine kr_istore_n (lv' := [(3, .int 0), (0, .ref 118), (1, .int a), (2, .int b)]) rd_d_X12_share_24 (by decide) rfl ?_
      refine kr_iload_n 2 rd_d_X12_share_25 rfl ?_
      refine kr_istore (lv' := [(4, .int a), (3, .int 0), (0, .ref 118), (1, .int a), (2, .int b)]) rd_d_X12_share_26 (by decide) rfl ?_
      refine kr_mono ?_ (kr_less (d := 3) (by decide) (Nat.le_refl _) (Nat.le_refl _) (ax_lo_sm G hT a b hb.1.2 (10 - a.toInt.toNat) a.toInt.toNat a 0 (ax_winN hb h2).1 (ax_winN hb h2).2))
      exact fun r σ' h => h.1.trans (by rw [e120, ax_f_shM, if_neg h2, if_neg h4])
    · refine kr_iconst (v := (-1)) rd_d_X12_share_21 (by decide) ?_
      exact kr_ireturn rd_d_X12_share_22 (ty := .int) rfl rfl (by rw [e120, ax_f_shM, if_neg h2, if_pos h4])
theorem sh_eql {m : Nat → Nat → Int32} {s : Nat → Int32} (h : pl_R m 4 s) (a b : Int32) : ∀ (f : Nat) (k z : Int32), ax_l_sh m a b f k z = ax_l_sm s a b f k z := by
  have hw := pl_w h
  have z0 : ∀ x : Int32, x ||| 0 = x := fun x => Int32.or_zero
  intro f
  induction f with
  | zero =>
    intro k z
    rw [ax_l_sh_zero, ax_l_sm_zero, ax_s_sh, ax_s_sm, hw]
  | succ f ih =>
    intro k z
    rw [ax_l_sh_succ, ax_l_sm_succ, ax_s_sh, ax_s_sm, hw]
    split
    · rfl
    · split
      · exact ih _ _
      · split
        · rw [z0]; exact ih _ _
        · exact ih _ _
theorem sh_eq {m : Nat → Nat → Int32} {s : Nat → Int32} (h : pl_R m 4 s) (b : pl_B s) (a c : Int32) : ax_f_shX m a c = ax_f_shM s a c := by
  rw [ax_f_shX, ax_f_shM, ax_hasE h b, ax_hasE h b, sh_eql h]
end AXX
