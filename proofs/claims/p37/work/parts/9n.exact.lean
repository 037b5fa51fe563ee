/-! EXACT: what a call answers, as a function of what the memory holds (rows written by a program) -/
/-- shapes and references, all that a walk needs of a state -/
abbrev ax_S (σ : am_S) : Prop := (∀ (o : Nat) (h : am_sh), ex_sh (z9.2.2.1 o) = some h → σ.1[o]? = some h) ∧ (∀ o k r : Nat, z9.2.2.2.1 o k = some r → σ.2.2.2 o k = .ref r)
theorem ax_SM {σe σ : am_S} {m x : Nat} (h : sx_M z9 hd_C σe m x σ) : ax_S σ := ⟨h.1, h.2.1⟩
abbrev ax_R (v : Int32) (σ : am_S) : Option (Option Value) → am_S → Prop := fun r σ' => r = some (some (.int v)) ∧ σ' = σ
def ax_ent (f : Nat → Int32) (n : Nat) (i : Int32) : Int32 := if i < 0 then 0 else if nI n ≤ i then 0 else f i.toNatClampNeg
theorem ax_ent_in {f : Nat → Int32} {n k : Nat} {i : Int32} (hn : n < 2 ^ 31) (h : i.toInt = k) (hk : k < n) : ax_ent f n i = f k := by
  have z0 : (0 : Int32).toInt = 0 := rfl
  have zn : (nI n).toInt = n := Int32.toInt_ofNat_of_lt hn
  have g1 : ¬ i < 0 := fun q => by have := Int32.lt_iff_toInt_lt.mp q; omega
  have g2 : ¬ nI n ≤ i := fun q => by have := Int32.le_iff_toInt_le.mp q; omega
  rw [ax_ent, if_neg g1, if_neg g2, hd_clamp h]
theorem ax_ix {c k : Int32} {C j : Nat} (hc : c.toInt = C) (hC : C < 1000) (hk : k.toInt = j) (hj : j < 1000) : (c + k).toInt = ((C + j : Nat) : Int) := by
  rw [sx_addI c k (by show (-2147483648 : Int) ≤ _; omega) (by show _ ≤ (2147483647 : Int); omega)]
  omega
theorem rd_d_X9_weightOf_0 : decode tX9_weightOf.1.2.1 0 = .ok (.aload_n 0, 1) := by decide +kernel
theorem rd_d_X9_weightOf_1 : decode tX9_weightOf.1.2.1 1 = .ok (.getfield 27, 3) := by decide +kernel
theorem rd_k_X9_weightOf_1 : ex_lk ex_mt tX9_weightOf 1 (.getfield 27) [9, 5, 2, 65654] = true := by decide +kernel
theorem rd_d_X9_weightOf_4 : decode tX9_weightOf.1.2.1 4 = .ok (.iload_n 1, 1) := by decide +kernel
theorem rd_d_X9_weightOf_5 : decode tX9_weightOf.1.2.1 5 = .ok (.invokestatic 118, 3) := by decide +kernel
theorem rd_k_X9_weightOf_5 : ex_lk ex_mt tX9_weightOf 5 (.invokestatic 118) [0, 32, 196745] = true := by decide +kernel
theorem rd_d_X9_weightOf_8 : decode tX9_weightOf.1.2.1 8 = .ok (.ireturn, 1) := by decide +kernel
theorem rd_d_X11_stand_0 : decode tX11_stand.1.2.1 0 = .ok (.iload_n 1, 1) := by decide +kernel
theorem rd_d_X11_stand_1 : decode tX11_stand.1.2.1 1 = .ok (.ifCond .lt 23, 3) := by decide +kernel
theorem rd_d_X11_stand_4 : decode tX11_stand.1.2.1 4 = .ok (.iload_n 1, 1) := by decide +kernel
theorem rd_d_X11_stand_5 : decode tX11_stand.1.2.1 5 = .ok (.aload_n 0, 1) := by decide +kernel
theorem rd_d_X11_stand_6 : decode tX11_stand.1.2.1 6 = .ok (.getfield 28, 3) := by decide +kernel
theorem rd_k_X11_stand_6 : ex_lk ex_mt tX11_stand 6 (.getfield 28) [11, 2, 2, 131261] = true := by decide +kernel
theorem rd_d_X11_stand_9 : decode tX11_stand.1.2.1 9 = .ok (.getfield 179, 3) := by decide +kernel
theorem rd_k_X11_stand_9 : ex_lk ex_mt tX11_stand 9 (.getfield 179) [9, 8, 0, 65661] = true := by decide +kernel
theorem rd_d_X11_stand_12 : decode tX11_stand.1.2.1 12 = .ok (.if_icmp .ge 12, 3) := by decide +kernel
theorem rd_d_X11_stand_15 : decode tX11_stand.1.2.1 15 = .ok (.iload_n 2, 1) := by decide +kernel
theorem rd_d_X11_stand_16 : decode tX11_stand.1.2.1 16 = .ok (.ifCond .lt 8, 3) := by decide +kernel
theorem rd_d_X11_stand_19 : decode tX11_stand.1.2.1 19 = .ok (.iload_n 2, 1) := by decide +kernel
theorem rd_d_X11_stand_20 : decode tX11_stand.1.2.1 20 = .ok (.iconst 1, 1) := by decide +kernel
theorem rd_d_X11_stand_21 : decode tX11_stand.1.2.1 21 = .ok (.if_icmp .le 5, 3) := by decide +kernel
theorem rd_d_X11_stand_24 : decode tX11_stand.1.2.1 24 = .ok (.iconst (-1), 1) := by decide +kernel
theorem rd_d_X11_stand_25 : decode tX11_stand.1.2.1 25 = .ok (.ireturn, 1) := by decide +kernel
theorem rd_d_X11_stand_26 : decode tX11_stand.1.2.1 26 = .ok (.iload_n 2, 1) := by decide +kernel
theorem rd_d_X11_stand_27 : decode tX11_stand.1.2.1 27 = .ok (.ifCond .ne 14, 3) := by decide +kernel
theorem rd_d_X11_stand_30 : decode tX11_stand.1.2.1 30 = .ok (.aload_n 0, 1) := by decide +kernel
theorem rd_d_X11_stand_31 : decode tX11_stand.1.2.1 31 = .ok (.getfield 28, 3) := by decide +kernel
theorem rd_k_X11_stand_31 : ex_lk ex_mt tX11_stand 31 (.getfield 28) [11, 2, 2, 131261] = true := by decide +kernel
theorem rd_d_X11_stand_34 : decode tX11_stand.1.2.1 34 = .ok (.iload_n 1, 1) := by decide +kernel
theorem rd_d_X11_stand_35 : decode tX11_stand.1.2.1 35 = .ok (.invokevirtual 182, 3) := by decide +kernel
theorem rd_k_X11_stand_35 : ex_lk ex_mt tX11_stand 35 (.invokevirtual 182) [0, 308, 196795] = true := by decide +kernel
theorem rd_d_X11_stand_38 : decode tX11_stand.1.2.1 38 = .ok (.goto 11, 3) := by decide +kernel
theorem rd_d_X11_stand_41 : decode tX11_stand.1.2.1 41 = .ok (.aload_n 0, 1) := by decide +kernel
theorem rd_d_X11_stand_42 : decode tX11_stand.1.2.1 42 = .ok (.getfield 28, 3) := by decide +kernel
theorem rd_k_X11_stand_42 : ex_lk ex_mt tX11_stand 42 (.getfield 28) [11, 2, 2, 131261] = true := by decide +kernel
theorem rd_d_X11_stand_45 : decode tX11_stand.1.2.1 45 = .ok (.iload_n 1, 1) := by decide +kernel
theorem rd_d_X11_stand_46 : decode tX11_stand.1.2.1 46 = .ok (.invokevirtual 185, 3) := by decide +kernel
theorem rd_k_X11_stand_46 : ex_lk ex_mt tX11_stand 46 (.invokevirtual 185) [0, 315, 196796] = true := by decide +kernel
theorem rd_d_X11_stand_49 : decode tX11_stand.1.2.1 49 = .ok (.ireturn, 1) := by decide +kernel
theorem rd_d_X12_isIn_0 : decode tX12_isIn.1.2.1 0 = .ok (.iload_n 0, 1) := by decide +kernel
theorem rd_d_X12_isIn_1 : decode tX12_isIn.1.2.1 1 = .ok (.iload_n 1, 1) := by decide +kernel
theorem rd_d_X12_isIn_2 : decode tX12_isIn.1.2.1 2 = .ok (.if_icmp .lt 12, 3) := by decide +kernel
theorem rd_d_X12_isIn_5 : decode tX12_isIn.1.2.1 5 = .ok (.iload_n 0, 1) := by decide +kernel
theorem rd_d_X12_isIn_6 : decode tX12_isIn.1.2.1 6 = .ok (.iload_n 2, 1) := by decide +kernel
theorem rd_d_X12_isIn_7 : decode tX12_isIn.1.2.1 7 = .ok (.if_icmp .gt 7, 3) := by decide +kernel
theorem rd_d_X12_isIn_10 : decode tX12_isIn.1.2.1 10 = .ok (.iconst 1, 1) := by decide +kernel
theorem rd_d_X12_isIn_11 : decode tX12_isIn.1.2.1 11 = .ok (.goto 4, 3) := by decide +kernel
theorem rd_d_X12_isIn_14 : decode tX12_isIn.1.2.1 14 = .ok (.iconst 0, 1) := by decide +kernel
theorem rd_d_X12_isIn_15 : decode tX12_isIn.1.2.1 15 = .ok (.ireturn, 1) := by decide +kernel
theorem rd_d_X12_greater_0 : decode tX12_greater.1.2.1 0 = .ok (.iload_n 0, 1) := by decide +kernel
theorem rd_d_X12_greater_1 : decode tX12_greater.1.2.1 1 = .ok (.iload_n 1, 1) := by decide +kernel
theorem rd_d_X12_greater_2 : decode tX12_greater.1.2.1 2 = .ok (.if_icmp .le 7, 3) := by decide +kernel
theorem rd_d_X12_greater_5 : decode tX12_greater.1.2.1 5 = .ok (.iload_n 0, 1) := by decide +kernel
theorem rd_d_X12_greater_6 : decode tX12_greater.1.2.1 6 = .ok (.goto 4, 3) := by decide +kernel
theorem rd_d_X12_greater_9 : decode tX12_greater.1.2.1 9 = .ok (.iload_n 1, 1) := by decide +kernel
theorem rd_d_X12_greater_10 : decode tX12_greater.1.2.1 10 = .ok (.ireturn, 1) := by decide +kernel
theorem rd_d_X12_standMany_0 : decode tX12_standMany.1.2.1 0 = .ok (.iconst 1, 1) := by decide +kernel
theorem rd_d_X12_standMany_1 : decode tX12_standMany.1.2.1 1 = .ok (.aload_n 0, 1) := by decide +kernel
theorem rd_d_X12_standMany_2 : decode tX12_standMany.1.2.1 2 = .ok (.getfield 33, 3) := by decide +kernel
theorem rd_k_X12_standMany_2 : ex_lk ex_mt tX12_standMany 2 (.getfield 33) [12, 6, 2, 458773] = true := by decide +kernel
theorem rd_d_X12_standMany_5 : decode tX12_standMany.1.2.1 5 = .ok (.iconst 1, 1) := by decide +kernel
theorem rd_d_X12_standMany_6 : decode tX12_standMany.1.2.1 6 = .ok (.iaload, 1) := by decide +kernel
theorem rd_d_X12_standMany_7 : decode tX12_standMany.1.2.1 7 = .ok (.invokestatic 201, 3) := by decide +kernel
theorem rd_k_X12_standMany_7 : ex_lk ex_mt tX12_standMany 7 (.invokestatic 201) [0, 111, 524303] = true := by decide +kernel
theorem rd_d_X12_standMany_10 : decode tX12_standMany.1.2.1 10 = .ok (.ireturn, 1) := by decide +kernel
theorem rd_d_X12_secondsOf_0 : decode tX12_secondsOf.1.2.1 0 = .ok (.aload_n 0, 1) := by decide +kernel
theorem rd_d_X12_secondsOf_1 : decode tX12_secondsOf.1.2.1 1 = .ok (.getfield 33, 3) := by decide +kernel
theorem rd_k_X12_secondsOf_1 : ex_lk ex_mt tX12_secondsOf 1 (.getfield 33) [12, 6, 2, 458773] = true := by decide +kernel
theorem rd_d_X12_secondsOf_4 : decode tX12_secondsOf.1.2.1 4 = .ok (.iconst 1, 1) := by decide +kernel
theorem rd_d_X12_secondsOf_5 : decode tX12_secondsOf.1.2.1 5 = .ok (.iaload, 1) := by decide +kernel
theorem rd_d_X12_secondsOf_6 : decode tX12_secondsOf.1.2.1 6 = .ok (.ifCond .ne 8, 3) := by decide +kernel
theorem rd_d_X12_secondsOf_9 : decode tX12_secondsOf.1.2.1 9 = .ok (.bipush 10, 2) := by decide +kernel
theorem rd_d_X12_secondsOf_11 : decode tX12_secondsOf.1.2.1 11 = .ok (.goto 12, 3) := by decide +kernel
theorem rd_d_X12_secondsOf_14 : decode tX12_secondsOf.1.2.1 14 = .ok (.aload_n 0, 1) := by decide +kernel
theorem rd_d_X12_secondsOf_15 : decode tX12_secondsOf.1.2.1 15 = .ok (.getfield 33, 3) := by decide +kernel
theorem rd_k_X12_secondsOf_15 : ex_lk ex_mt tX12_secondsOf 15 (.getfield 33) [12, 6, 2, 458773] = true := by decide +kernel
theorem rd_d_X12_secondsOf_18 : decode tX12_secondsOf.1.2.1 18 = .ok (.bipush 42, 2) := by decide +kernel
theorem rd_d_X12_secondsOf_20 : decode tX12_secondsOf.1.2.1 20 = .ok (.iload_n 1, 1) := by decide +kernel
theorem rd_d_X12_secondsOf_21 : decode tX12_secondsOf.1.2.1 21 = .ok (.iadd, 1) := by decide +kernel
theorem rd_d_X12_secondsOf_22 : decode tX12_secondsOf.1.2.1 22 = .ok (.iaload, 1) := by decide +kernel
theorem rd_d_X12_secondsOf_23 : decode tX12_secondsOf.1.2.1 23 = .ok (.ireturn, 1) := by decide +kernel
theorem rd_d_X12_weightOf_0 : decode tX12_weightOf.1.2.1 0 = .ok (.aload_n 0, 1) := by decide +kernel
theorem rd_d_X12_weightOf_1 : decode tX12_weightOf.1.2.1 1 = .ok (.getfield 33, 3) := by decide +kernel
theorem rd_k_X12_weightOf_1 : ex_lk ex_mt tX12_weightOf 1 (.getfield 33) [12, 6, 2, 458773] = true := by decide +kernel
theorem rd_d_X12_weightOf_4 : decode tX12_weightOf.1.2.1 4 = .ok (.iconst 1, 1) := by decide +kernel
theorem rd_d_X12_weightOf_5 : decode tX12_weightOf.1.2.1 5 = .ok (.iaload, 1) := by decide +kernel
theorem rd_d_X12_weightOf_6 : decode tX12_weightOf.1.2.1 6 = .ok (.ifCond .ne 7, 3) := by decide +kernel
theorem rd_d_X12_weightOf_9 : decode tX12_weightOf.1.2.1 9 = .ok (.iconst 1, 1) := by decide +kernel
theorem rd_d_X12_weightOf_10 : decode tX12_weightOf.1.2.1 10 = .ok (.goto 12, 3) := by decide +kernel
theorem rd_d_X12_weightOf_13 : decode tX12_weightOf.1.2.1 13 = .ok (.aload_n 0, 1) := by decide +kernel
theorem rd_d_X12_weightOf_14 : decode tX12_weightOf.1.2.1 14 = .ok (.getfield 33, 3) := by decide +kernel
theorem rd_k_X12_weightOf_14 : ex_lk ex_mt tX12_weightOf 14 (.getfield 33) [12, 6, 2, 458773] = true := by decide +kernel
theorem rd_d_X12_weightOf_17 : decode tX12_weightOf.1.2.1 17 = .ok (.bipush 48, 2) := by decide +kernel
theorem rd_d_X12_weightOf_19 : decode tX12_weightOf.1.2.1 19 = .ok (.iload_n 1, 1) := by decide +kernel
theorem rd_d_X12_weightOf_20 : decode tX12_weightOf.1.2.1 20 = .ok (.iadd, 1) := by decide +kernel
theorem rd_d_X12_weightOf_21 : decode tX12_weightOf.1.2.1 21 = .ok (.iaload, 1) := by decide +kernel
theorem rd_d_X12_weightOf_22 : decode tX12_weightOf.1.2.1 22 = .ok (.ireturn, 1) := by decide +kernel
theorem rd_d_X12_stand_0 : decode tX12_stand.1.2.1 0 = .ok (.aload_n 0, 1) := by decide +kernel
theorem rd_d_X12_stand_1 : decode tX12_stand.1.2.1 1 = .ok (.iconst 0, 1) := by decide +kernel
theorem rd_d_X12_stand_2 : decode tX12_stand.1.2.1 2 = .ok (.putfield 1, 3) := by decide +kernel
theorem rd_k_X12_stand_2 : ex_lk ex_mt tX12_stand 2 (.putfield 1) [12, 0, 0, 458767] = true := by decide +kernel
theorem rd_d_X12_stand_5 : decode tX12_stand.1.2.1 5 = .ok (.iload_n 1, 1) := by decide +kernel
theorem rd_d_X12_stand_6 : decode tX12_stand.1.2.1 6 = .ok (.iconst 0, 1) := by decide +kernel
theorem rd_d_X12_stand_7 : decode tX12_stand.1.2.1 7 = .ok (.aload_n 0, 1) := by decide +kernel
theorem rd_d_X12_stand_8 : decode tX12_stand.1.2.1 8 = .ok (.invokevirtual 205, 3) := by decide +kernel
theorem rd_k_X12_stand_8 : ex_lk ex_mt tX12_stand 8 (.invokevirtual 205) [0, 171, 524299] = true := by decide +kernel
theorem rd_d_X12_stand_11 : decode tX12_stand.1.2.1 11 = .ok (.iconst 1, 1) := by decide +kernel
theorem rd_d_X12_stand_12 : decode tX12_stand.1.2.1 12 = .ok (.isub, 1) := by decide +kernel
theorem rd_d_X12_stand_13 : decode tX12_stand.1.2.1 13 = .ok (.invokestatic 134, 3) := by decide +kernel
theorem rd_k_X12_stand_13 : ex_lk ex_mt tX12_stand 13 (.invokestatic 134) [0, 119, 458953] = true := by decide +kernel
theorem rd_d_X12_stand_16 : decode tX12_stand.1.2.1 16 = .ok (.ifCond .ne 5, 3) := by decide +kernel
theorem rd_d_X12_stand_19 : decode tX12_stand.1.2.1 19 = .ok (.iconst (-1), 1) := by decide +kernel
theorem rd_d_X12_stand_20 : decode tX12_stand.1.2.1 20 = .ok (.ireturn, 1) := by decide +kernel
theorem rd_d_X12_stand_21 : decode tX12_stand.1.2.1 21 = .ok (.iload_n 2, 1) := by decide +kernel
theorem rd_d_X12_stand_22 : decode tX12_stand.1.2.1 22 = .ok (.ifCond .ne 11, 3) := by decide +kernel
theorem rd_d_X12_stand_25 : decode tX12_stand.1.2.1 25 = .ok (.aload_n 0, 1) := by decide +kernel
theorem rd_d_X12_stand_26 : decode tX12_stand.1.2.1 26 = .ok (.iload_n 1, 1) := by decide +kernel
theorem rd_d_X12_stand_27 : decode tX12_stand.1.2.1 27 = .ok (.invokevirtual 208, 3) := by decide +kernel
theorem rd_k_X12_stand_27 : ex_lk ex_mt tX12_stand 27 (.invokevirtual 208) [0, 163, 524306] = true := by decide +kernel
theorem rd_d_X12_stand_30 : decode tX12_stand.1.2.1 30 = .ok (.goto 17, 3) := by decide +kernel
theorem rd_d_X12_stand_33 : decode tX12_stand.1.2.1 33 = .ok (.iload_n 2, 1) := by decide +kernel
theorem rd_d_X12_stand_34 : decode tX12_stand.1.2.1 34 = .ok (.iconst 1, 1) := by decide +kernel
theorem rd_d_X12_stand_35 : decode tX12_stand.1.2.1 35 = .ok (.if_icmp .ne 11, 3) := by decide +kernel
theorem rd_d_X12_stand_38 : decode tX12_stand.1.2.1 38 = .ok (.aload_n 0, 1) := by decide +kernel
theorem rd_d_X12_stand_39 : decode tX12_stand.1.2.1 39 = .ok (.iload_n 1, 1) := by decide +kernel
theorem rd_d_X12_stand_40 : decode tX12_stand.1.2.1 40 = .ok (.invokevirtual 211, 3) := by decide +kernel
theorem rd_k_X12_stand_40 : ex_lk ex_mt tX12_stand 40 (.invokevirtual 211) [0, 185, 524310] = true := by decide +kernel
theorem rd_d_X12_stand_43 : decode tX12_stand.1.2.1 43 = .ok (.goto 4, 3) := by decide +kernel
theorem rd_d_X12_stand_46 : decode tX12_stand.1.2.1 46 = .ok (.iconst (-1), 1) := by decide +kernel
theorem rd_d_X12_stand_47 : decode tX12_stand.1.2.1 47 = .ok (.ireturn, 1) := by decide +kernel
section AX
variable {g : am_C} {L : Nat} {xs : Nat → Int32}
theorem ax_entry (G : sx_G0 g L xs z9 hd_C ex_mt) {σ : am_S} {o n : Nat} (ho : σ.1[o]? = some (.inr (.int, n))) (hn : n < 2 ^ 31) (i : Int32) : am_K g 1 tX11_entry.1 0 0 0 (lv_args 0 [.ref o, .int i]) [] σ (ax_R (ax_ent (σ.2.1 o) n i) σ) := by
  have z0 : (0 : Int32).toInt = 0 := rfl
  have zn : (nI n).toInt = n := Int32.toInt_ofNat_of_lt hn
  refine kr_iload_n 1 rd_d_X11_entry_0 rfl ?_
  refine kr_if_lt (tgt := 16) rd_d_X11_entry_1 rfl (fun h1 => ?_) (fun h1 => ?_)
  · refine kr_iconst (v := 0) rd_d_X11_entry_16 (by decide) ?_
    exact kr_ireturn rd_d_X11_entry_17 (ty := .int) rfl rfl ⟨by rw [ax_ent, if_pos h1], rfl⟩
  · refine kr_iload_n 1 rd_d_X11_entry_4 rfl ?_
    refine kr_aload_n 0 rd_d_X11_entry_5 rfl ?_
    refine kr_alenI G.1 rd_d_X11_entry_6 ho ?_
    refine kr_icmp_ge (tgt := 16) rd_d_X11_entry_7 rfl (fun h2 => ?_) (fun h2 => ?_)
    · refine kr_iconst (v := 0) rd_d_X11_entry_16 (by decide) ?_
      exact kr_ireturn rd_d_X11_entry_17 (ty := .int) rfl rfl ⟨by rw [ax_ent, if_neg h1, if_pos h2], rfl⟩
    · have g1 : ¬ i.toInt < 0 := fun q => h1 (Int32.lt_iff_toInt_lt.mpr (by omega))
      have g2 : ¬ (n : Int) ≤ i.toInt := fun q => h2 (Int32.le_iff_toInt_le.mpr (by omega))
      refine kr_aload_n 0 rd_d_X11_entry_10 rfl ?_
      refine kr_iload_n 1 rd_d_X11_entry_11 rfl ?_
      refine kr_iald G.1 rd_d_X11_entry_12 ho (hd_in (n := i.toInt.toNat) (by omega) (by omega)) ?_
      refine kr_goto (tgt := 17) rd_d_X11_entry_13 rfl ?_
      exact kr_ireturn rd_d_X11_entry_17 (ty := .int) rfl rfl ⟨by rw [ax_ent, if_neg h1, if_neg h2], rfl⟩
/-- the reference's methods begin with thrown = 0 -/
theorem ax_thr {T : ex_T} (G : sx_G0 g L xs z9 hd_C ex_mt) {σ : am_S} (hS : ax_S σ) {K p d : Nat} (h1 : decode T.1.2.1 0 = .ok (.aload_n 0, 1)) (h2 : decode T.1.2.1 1 = .ok (.iconst 0, 1)) (h3 : decode T.1.2.1 2 = .ok (.putfield 1, 3)) (hk : ex_lk ex_mt T 2 (.putfield 1) [12, K, 0, p] = true) {lv : List (Nat × Value)} (hl : lv[0]? = some (0, .ref 118)) {post : Option (Option Value) → am_S → Prop} (kk : ∀ τ : am_S, ax_S τ → (∀ o k, o ≠ 118 → τ.2.1 o k = σ.2.1 o k) → (∀ k, k ≠ K → τ.2.1 118 k = σ.2.1 118 k) → am_K g d T.1 0 0 5 lv [] τ post) : am_K g d T.1 0 0 0 lv [] σ post := by
  have hty := (rd_FPi hk).2
  refine kr_aload_n (k := 0) 0 h1 hl ?_
  refine kr_iconst (v := 0) h2 (by decide) ?_
  refine kr_putI G.1 (rd_FPi hk).1 h3 (hS.1 118 (.inl 12) rfl) (by rw [hty]; rfl) (by rw [hty]; rfl) (by rw [hty]; rfl) ?_
  exact kk _ hS (fun o k h => am_up_o _ _ h) (fun k h => am_up_n _ _ (fun q => h q.2))
def ax_f_secX (m : Nat → Nat → Int32) (k : Int32) : Int32 := ax_ent (m 9) 6 k
theorem ax_secX (G : sx_G0 g L xs z9 hd_C ex_mt) {σ : am_S} (hS : ax_S σ) (k : Int32) : am_K g 2 tX9_secondsOf.1 0 0 0 (lv_args 0 [.ref 4, .int k]) [] σ (ax_R (ax_f_secX σ.2.1 k) σ) := by
  refine kr_aload_n 0 rd_d_X9_secondsOf_0 rfl ?_
  refine kr_getf G.1 (rd_FL rd_k_X9_secondsOf_1).1 rd_d_X9_secondsOf_1 (hS.1 4 (.inl 9) rfl) (v := .ref 9) (by unfold am_fa; rw [(rd_FL rd_k_X9_secondsOf_1).2]; exact hS.2 4 4 9 rfl) ?_
  refine kr_iload_n 1 rd_d_X9_secondsOf_4 rfl ?_
  refine rd_callS G (T2 := tX11_entry) rfl rd_d_X9_secondsOf_5 rd_k_X9_secondsOf_5 rfl rfl (as := [.ref 9, .int k]) (st := []) rfl (Nat.le_of_ble_eq_true rfl) rfl (Nat.le_of_ble_eq_true rfl) (d1 := 1) (by decide) (fun _ h => by cases h.1) (ax_entry G (hS.1 9 (.inr (.int, 6)) rfl) (by decide) k) ?_
  intro v1 σ1 ⟨hv1, hs1⟩
  cases hv1
  rw [hs1]
  exact kr_ireturn rd_d_X9_secondsOf_8 (ty := .int) rfl rfl ⟨rfl, rfl⟩
def ax_f_wgtX (m : Nat → Nat → Int32) (k : Int32) : Int32 := ax_ent (m 10) 6 k
theorem ax_wgtX (G : sx_G0 g L xs z9 hd_C ex_mt) {σ : am_S} (hS : ax_S σ) (k : Int32) : am_K g 2 tX9_weightOf.1 0 0 0 (lv_args 0 [.ref 4, .int k]) [] σ (ax_R (ax_f_wgtX σ.2.1 k) σ) := by
  refine kr_aload_n 0 rd_d_X9_weightOf_0 rfl ?_
  refine kr_getf G.1 (rd_FL rd_k_X9_weightOf_1).1 rd_d_X9_weightOf_1 (hS.1 4 (.inl 9) rfl) (v := .ref 10) (by unfold am_fa; rw [(rd_FL rd_k_X9_weightOf_1).2]; exact hS.2 4 5 10 rfl) ?_
  refine kr_iload_n 1 rd_d_X9_weightOf_4 rfl ?_
  refine rd_callS G (T2 := tX11_entry) rfl rd_d_X9_weightOf_5 rd_k_X9_weightOf_5 rfl rfl (as := [.ref 10, .int k]) (st := []) rfl (Nat.le_of_ble_eq_true rfl) rfl (Nat.le_of_ble_eq_true rfl) (d1 := 1) (by decide) (fun _ h => by cases h.1) (ax_entry G (hS.1 10 (.inr (.int, 6)) rfl) (by decide) k) ?_
  intro v1 σ1 ⟨hv1, hs1⟩
  cases hv1
  rw [hs1]
  exact kr_ireturn rd_d_X9_weightOf_8 (ty := .int) rfl rfl ⟨rfl, rfl⟩
def ax_f_stX (m : Nat → Nat → Int32) (a b : Int32) : Int32 := if a < 0 then (-1) else if (m 4 8) ≤ a then (-1) else if b < 0 then (-1) else if b ≤ 1 then if b = 0 then ax_f_secX m a else ax_f_wgtX m a else (-1)
theorem ax_stX (G : sx_G0 g L xs z9 hd_C ex_mt) {σ : am_S} (hS : ax_S σ) (a b : Int32) : am_K g 3 tX11_stand.1 0 0 0 (lv_args 0 [.ref 0, .int a, .int b]) [] σ (ax_R (ax_f_stX σ.2.1 a b) σ) := by
  refine kr_iload_n 1 rd_d_X11_stand_0 rfl ?_
  refine kr_if_lt (tgt := 24) rd_d_X11_stand_1 rfl (fun h1 => ?_) (fun h1 => ?_)
  · refine kr_iconst (v := (-1)) rd_d_X11_stand_24 (by decide) ?_
    exact kr_ireturn rd_d_X11_stand_25 (ty := .int) rfl rfl ⟨by rw [ax_f_stX, if_pos h1], rfl⟩
  · refine kr_iload_n 1 rd_d_X11_stand_4 rfl ?_
    refine kr_aload_n 0 rd_d_X11_stand_5 rfl ?_
    refine kr_getf G.1 (rd_FL rd_k_X11_stand_6).1 rd_d_X11_stand_6 (hS.1 0 (.inl 11) rfl) (v := .ref 4) (by unfold am_fa; rw [(rd_FL rd_k_X11_stand_6).2]; exact hS.2 0 2 4 rfl) ?_
    refine kr_getf G.1 (rd_FL rd_k_X11_stand_9).1 rd_d_X11_stand_9 (hS.1 4 (.inl 9) rfl) (v := .int (σ.2.1 4 8)) (by unfold am_fa; rw [(rd_FL rd_k_X11_stand_9).2]; rfl) ?_
    refine kr_icmp_ge (tgt := 24) rd_d_X11_stand_12 rfl (fun h2 => ?_) (fun h2 => ?_)
    · refine kr_iconst (v := (-1)) rd_d_X11_stand_24 (by decide) ?_
      exact kr_ireturn rd_d_X11_stand_25 (ty := .int) rfl rfl ⟨by rw [ax_f_stX, if_neg h1, if_pos h2], rfl⟩
    · refine kr_iload_n 2 rd_d_X11_stand_15 rfl ?_
      refine kr_if_lt (tgt := 24) rd_d_X11_stand_16 rfl (fun h3 => ?_) (fun h3 => ?_)
      · refine kr_iconst (v := (-1)) rd_d_X11_stand_24 (by decide) ?_
        exact kr_ireturn rd_d_X11_stand_25 (ty := .int) rfl rfl ⟨by rw [ax_f_stX, if_neg h1, if_neg h2, if_pos h3], rfl⟩
      · refine kr_iload_n 2 rd_d_X11_stand_19 rfl ?_
        refine kr_iconst (v := 1) rd_d_X11_stand_20 (by decide) ?_
        refine kr_icmp_le (tgt := 26) rd_d_X11_stand_21 rfl (fun h4 => ?_) (fun h4 => ?_)
        · refine kr_iload_n 2 rd_d_X11_stand_26 rfl ?_
          refine kr_if_ne (tgt := 41) rd_d_X11_stand_27 rfl (fun h5 => ?_) (fun h5 => ?_)
          · refine kr_aload_n 0 rd_d_X11_stand_41 rfl ?_
            refine kr_getf G.1 (rd_FL rd_k_X11_stand_42).1 rd_d_X11_stand_42 (hS.1 0 (.inl 11) rfl) (v := .ref 4) (by unfold am_fa; rw [(rd_FL rd_k_X11_stand_42).2]; exact hS.2 0 2 4 rfl) ?_
            refine kr_iload_n 1 rd_d_X11_stand_45 rfl ?_
            refine rd_call G (T2 := tX9_weightOf) rfl rd_d_X11_stand_46 rd_k_X11_stand_46 rfl (hS.1 4 (.inl 9) rfl) (as := [.int a]) (st := []) rfl (Nat.le_of_ble_eq_true rfl) rfl (Nat.le_of_ble_eq_true rfl) (d1 := 2) (by decide) (fun _ h => by cases h.1) (ax_wgtX G hS a) ?_
            intro v6 σ6 ⟨hv6, hs6⟩
            cases hv6
            rw [hs6]
            exact kr_ireturn rd_d_X11_stand_49 (ty := .int) rfl rfl ⟨by rw [ax_f_stX, if_neg h1, if_neg h2, if_neg h3, if_pos h4, if_neg h5], rfl⟩
          · refine kr_aload_n 0 rd_d_X11_stand_30 rfl ?_
            refine kr_getf G.1 (rd_FL rd_k_X11_stand_31).1 rd_d_X11_stand_31 (hS.1 0 (.inl 11) rfl) (v := .ref 4) (by unfold am_fa; rw [(rd_FL rd_k_X11_stand_31).2]; exact hS.2 0 2 4 rfl) ?_
            refine kr_iload_n 1 rd_d_X11_stand_34 rfl ?_
            refine rd_call G (T2 := tX9_secondsOf) rfl rd_d_X11_stand_35 rd_k_X11_stand_35 rfl (hS.1 4 (.inl 9) rfl) (as := [.int a]) (st := []) rfl (Nat.le_of_ble_eq_true rfl) rfl (Nat.le_of_ble_eq_true rfl) (d1 := 2) (by decide) (fun _ h => by cases h.1) (ax_secX G hS a) ?_
            intro v7 σ7 ⟨hv7, hs7⟩
            cases hv7
            rw [hs7]
            refine kr_goto (tgt := 49) rd_d_X11_stand_38 rfl ?_
            exact kr_ireturn rd_d_X11_stand_49 (ty := .int) rfl rfl ⟨by rw [ax_f_stX, if_neg h1, if_neg h2, if_neg h3, if_pos h4, if_pos h5], rfl⟩
        · refine kr_iconst (v := (-1)) rd_d_X11_stand_24 (by decide) ?_
          exact kr_ireturn rd_d_X11_stand_25 (ty := .int) rfl rfl ⟨by rw [ax_f_stX, if_neg h1, if_neg h2, if_neg h3, if_neg h4], rfl⟩
def ax_f_isIn (a b c : Int32) : Int32 := if a < b then 0 else if c < a then 0 else 1
theorem ax_isIn (G : sx_G0 g L xs z9 hd_C ex_mt) {σ : am_S} (hS : ax_S σ) (a b c : Int32) : am_K g 1 tX12_isIn.1 0 0 0 (lv_args 0 [.int a, .int b, .int c]) [] σ (ax_R (ax_f_isIn a b c) σ) := by
  refine kr_iload_n 0 rd_d_X12_isIn_0 rfl ?_
  refine kr_iload_n 1 rd_d_X12_isIn_1 rfl ?_
  refine kr_icmp_lt (tgt := 14) rd_d_X12_isIn_2 rfl (fun h1 => ?_) (fun h1 => ?_)
  · refine kr_iconst (v := 0) rd_d_X12_isIn_14 (by decide) ?_
    exact kr_ireturn rd_d_X12_isIn_15 (ty := .boolean) rfl rfl ⟨by rw [ax_f_isIn, if_pos h1], rfl⟩
  · refine kr_iload_n 0 rd_d_X12_isIn_5 rfl ?_
    refine kr_iload_n 2 rd_d_X12_isIn_6 rfl ?_
    refine kr_icmp_gt (tgt := 14) rd_d_X12_isIn_7 rfl (fun h2 => ?_) (fun h2 => ?_)
    · refine kr_iconst (v := 0) rd_d_X12_isIn_14 (by decide) ?_
      exact kr_ireturn rd_d_X12_isIn_15 (ty := .boolean) rfl rfl ⟨by rw [ax_f_isIn, if_neg h1, if_pos h2], rfl⟩
    · refine kr_iconst (v := 1) rd_d_X12_isIn_10 (by decide) ?_
      refine kr_goto (tgt := 15) rd_d_X12_isIn_11 rfl ?_
      exact kr_ireturn rd_d_X12_isIn_15 (ty := .boolean) rfl rfl ⟨by rw [ax_f_isIn, if_neg h1, if_neg h2], rfl⟩
def ax_f_gr (a b : Int32) : Int32 := if a ≤ b then b else a
theorem ax_gr (G : sx_G0 g L xs z9 hd_C ex_mt) {σ : am_S} (hS : ax_S σ) (a b : Int32) : am_K g 1 tX12_greater.1 0 0 0 (lv_args 0 [.int a, .int b]) [] σ (ax_R (ax_f_gr a b) σ) := by
  refine kr_iload_n 0 rd_d_X12_greater_0 rfl ?_
  refine kr_iload_n 1 rd_d_X12_greater_1 rfl ?_
  refine kr_icmp_le (tgt := 9) rd_d_X12_greater_2 rfl (fun h1 => ?_) (fun h1 => ?_)
  · refine kr_iload_n 1 rd_d_X12_greater_9 rfl ?_
    exact kr_ireturn rd_d_X12_greater_10 (ty := .int) rfl rfl ⟨by rw [ax_f_gr, if_pos h1], rfl⟩
  · refine kr_iload_n 0 rd_d_X12_greater_5 rfl ?_
    refine kr_goto (tgt := 10) rd_d_X12_greater_6 rfl ?_
    exact kr_ireturn rd_d_X12_greater_10 (ty := .int) rfl rfl ⟨by rw [ax_f_gr, if_neg h1], rfl⟩
def ax_f_many (s : Nat → Int32) : Int32 := ax_f_gr 1 (s 1)
theorem ax_many (G : sx_G0 g L xs z9 hd_C ex_mt) {σ : am_S} (hS : ax_S σ) : am_K g 2 tX12_standMany.1 0 0 0 (lv_args 0 [.ref 118]) [] σ (ax_R (ax_f_many (σ.2.1 120)) σ) := by
  refine kr_iconst (v := 1) rd_d_X12_standMany_0 (by decide) ?_
  refine kr_aload_n 0 rd_d_X12_standMany_1 rfl ?_
  refine kr_getf G.1 (rd_FL rd_k_X12_standMany_2).1 rd_d_X12_standMany_2 (hS.1 118 (.inl 12) rfl) (v := .ref 120) (by unfold am_fa; rw [(rd_FL rd_k_X12_standMany_2).2]; exact hS.2 118 6 120 rfl) ?_
  refine kr_iconst (v := 1) rd_d_X12_standMany_5 (by decide) ?_
  refine kr_iald G.1 (n := 277) rd_d_X12_standMany_6 (hS.1 120 (.inr (.int, 277)) rfl) (hd_in (n := 1) (by decide) (by decide)) ?_
  rw [hd_clamp (n := 1) (by decide)]
  refine rd_callS G (T2 := tX12_greater) rfl rd_d_X12_standMany_7 rd_k_X12_standMany_7 rfl rfl (as := [.int 1, .int (σ.2.1 120 1)]) (st := []) rfl (Nat.le_of_ble_eq_true rfl) rfl (Nat.le_of_ble_eq_true rfl) (d1 := 1) (by decide) (fun _ h => by cases h.1) (ax_gr G hS 1 (σ.2.1 120 1)) ?_
  intro v1 σ1 ⟨hv1, hs1⟩
  cases hv1
  rw [hs1]
  exact kr_ireturn rd_d_X12_standMany_10 (ty := .int) rfl rfl ⟨rfl, rfl⟩
def ax_f_secM (s : Nat → Int32) (k : Int32) (j : Nat) : Int32 := if (s 1) = 0 then 10 else s (42 + j)
theorem ax_secM (G : sx_G0 g L xs z9 hd_C ex_mt) {σ : am_S} (hS : ax_S σ) (k : Int32) (j : Nat) (hk : k.toInt = (j : Nat)) (hj : j < 6) : am_K g 1 tX12_secondsOf.1 0 0 0 (lv_args 0 [.ref 118, .int k]) [] σ (ax_R (ax_f_secM (σ.2.1 120) k j) σ) := by
  refine kr_aload_n 0 rd_d_X12_secondsOf_0 rfl ?_
  refine kr_getf G.1 (rd_FL rd_k_X12_secondsOf_1).1 rd_d_X12_secondsOf_1 (hS.1 118 (.inl 12) rfl) (v := .ref 120) (by unfold am_fa; rw [(rd_FL rd_k_X12_secondsOf_1).2]; exact hS.2 118 6 120 rfl) ?_
  refine kr_iconst (v := 1) rd_d_X12_secondsOf_4 (by decide) ?_
  refine kr_iald G.1 (n := 277) rd_d_X12_secondsOf_5 (hS.1 120 (.inr (.int, 277)) rfl) (hd_in (n := 1) (by decide) (by decide)) ?_
  rw [hd_clamp (n := 1) (by decide)]
  refine kr_if_ne (tgt := 14) rd_d_X12_secondsOf_6 rfl (fun h1 => ?_) (fun h1 => ?_)
  · refine kr_aload_n 0 rd_d_X12_secondsOf_14 rfl ?_
    refine kr_getf G.1 (rd_FL rd_k_X12_secondsOf_15).1 rd_d_X12_secondsOf_15 (hS.1 118 (.inl 12) rfl) (v := .ref 120) (by unfold am_fa; rw [(rd_FL rd_k_X12_secondsOf_15).2]; exact hS.2 118 6 120 rfl) ?_
    refine kr_bipush (v := 42) rd_d_X12_secondsOf_18 (by decide) ?_
    refine kr_iload_n 1 rd_d_X12_secondsOf_20 rfl ?_
    refine kr_iadd rd_d_X12_secondsOf_21 ?_
    refine kr_iald G.1 (n := 277) rd_d_X12_secondsOf_22 (hS.1 120 (.inr (.int, 277)) rfl) (hd_in (n := 42 + j) (ax_ix (C := 42) (by decide) (by decide) hk (by omega)) (by omega)) ?_
    rw [hd_clamp (n := 42 + j) (ax_ix (C := 42) (by decide) (by decide) hk (by omega))]
    exact kr_ireturn rd_d_X12_secondsOf_23 (ty := .int) rfl rfl ⟨by rw [ax_f_secM, if_neg h1], rfl⟩
  · refine kr_bipush (v := 10) rd_d_X12_secondsOf_9 (by decide) ?_
    refine kr_goto (tgt := 23) rd_d_X12_secondsOf_11 rfl ?_
    exact kr_ireturn rd_d_X12_secondsOf_23 (ty := .int) rfl rfl ⟨by rw [ax_f_secM, if_pos h1], rfl⟩
def ax_f_wgtM (s : Nat → Int32) (k : Int32) (j : Nat) : Int32 := if (s 1) = 0 then 1 else s (48 + j)
theorem ax_wgtM (G : sx_G0 g L xs z9 hd_C ex_mt) {σ : am_S} (hS : ax_S σ) (k : Int32) (j : Nat) (hk : k.toInt = (j : Nat)) (hj : j < 6) : am_K g 1 tX12_weightOf.1 0 0 0 (lv_args 0 [.ref 118, .int k]) [] σ (ax_R (ax_f_wgtM (σ.2.1 120) k j) σ) := by
  refine kr_aload_n 0 rd_d_X12_weightOf_0 rfl ?_
  refine kr_getf G.1 (rd_FL rd_k_X12_weightOf_1).1 rd_d_X12_weightOf_1 (hS.1 118 (.inl 12) rfl) (v := .ref 120) (by unfold am_fa; rw [(rd_FL rd_k_X12_weightOf_1).2]; exact hS.2 118 6 120 rfl) ?_
  refine kr_iconst (v := 1) rd_d_X12_weightOf_4 (by decide) ?_
  refine kr_iald G.1 (n := 277) rd_d_X12_weightOf_5 (hS.1 120 (.inr (.int, 277)) rfl) (hd_in (n := 1) (by decide) (by decide)) ?_
  rw [hd_clamp (n := 1) (by decide)]
  refine kr_if_ne (tgt := 13) rd_d_X12_weightOf_6 rfl (fun h1 => ?_) (fun h1 => ?_)
  · refine kr_aload_n 0 rd_d_X12_weightOf_13 rfl ?_
    refine kr_getf G.1 (rd_FL rd_k_X12_weightOf_14).1 rd_d_X12_weightOf_14 (hS.1 118 (.inl 12) rfl) (v := .ref 120) (by unfold am_fa; rw [(rd_FL rd_k_X12_weightOf_14).2]; exact hS.2 118 6 120 rfl) ?_
    refine kr_bipush (v := 48) rd_d_X12_weightOf_17 (by decide) ?_
    refine kr_iload_n 1 rd_d_X12_weightOf_19 rfl ?_
    refine kr_iadd rd_d_X12_weightOf_20 ?_
    refine kr_iald G.1 (n := 277) rd_d_X12_weightOf_21 (hS.1 120 (.inr (.int, 277)) rfl) (hd_in (n := 48 + j) (ax_ix (C := 48) (by decide) (by decide) hk (by omega)) (by omega)) ?_
    rw [hd_clamp (n := 48 + j) (ax_ix (C := 48) (by decide) (by decide) hk (by omega))]
    exact kr_ireturn rd_d_X12_weightOf_22 (ty := .int) rfl rfl ⟨by rw [ax_f_wgtM, if_neg h1], rfl⟩
  · refine kr_iconst (v := 1) rd_d_X12_weightOf_9 (by decide) ?_
    refine kr_goto (tgt := 22) rd_d_X12_weightOf_10 rfl ?_
    exact kr_ireturn rd_d_X12_weightOf_22 (ty := .int) rfl rfl ⟨by rw [ax_f_wgtM, if_pos h1], rfl⟩
theorem ax_inj {a n : Int32} (h1 : 1 ≤ n.toInt ∧ n.toInt ≤ 6) (h : ¬ ax_f_isIn a 0 (n - 1) = 0) : a.toInt = ((a.toInt.toNat : Nat) : Int) ∧ a.toInt.toNat < 6 ∧ a.toInt < n.toInt := by
  have z0 : (0 : Int32).toInt = 0 := rfl
  have z1 : (1 : Int32).toInt = 1 := rfl
  have e := sx_subI n 1 (by show (-2147483648 : Int) ≤ _; omega) (by show _ ≤ (2147483647 : Int); omega)
  rw [ax_f_isIn] at h
  split at h
  · exact absurd rfl h
  · rename_i q1
    split at h
    · exact absurd rfl h
    · rename_i q2
      have g1 : ¬ a.toInt < 0 := fun q => q1 (Int32.lt_iff_toInt_lt.mpr (by omega))
      have g2 : ¬ (n - 1).toInt < a.toInt := fun q => q2 (Int32.lt_iff_toInt_lt.mpr q)
      omega
theorem ax_many6 {s : Nat → Int32} (h : 0 ≤ (s 1).toInt ∧ (s 1).toInt ≤ 6) : 1 ≤ (ax_f_many s).toInt ∧ (ax_f_many s).toInt ≤ 6 := by
  have z1 : (1 : Int32).toInt = 1 := rfl
  rw [ax_f_many, ax_f_gr]
  split
  · rename_i q
    have := Int32.le_iff_toInt_le.mp q
    omega
  · omega
def ax_f_stM (s : Nat → Int32) (a b : Int32) : Int32 := if (ax_f_isIn a 0 ((ax_f_many (s)) - 1)) = 0 then (-1) else if b = 0 then ax_f_secM (s) a (a.toInt.toNat) else if b = 1 then ax_f_wgtM (s) a (a.toInt.toNat) else (-1)
theorem ax_stM (G : sx_G0 g L xs z9 hd_C ex_mt) {σ : am_S} (hS : ax_S σ) (a b : Int32) (h1 : 0 ≤ (σ.2.1 120 1).toInt ∧ (σ.2.1 120 1).toInt ≤ 6) : am_K g 3 tX12_stand.1 0 0 0 (lv_args 0 [.ref 118, .int a, .int b]) [] σ (fun r _ => r = some (some (.int (ax_f_stM (σ.2.1 120) a b)))) := by
  refine ax_thr G hS rd_d_X12_stand_0 rd_d_X12_stand_1 rd_d_X12_stand_2 rd_k_X12_stand_2 rfl ?_
  intro τ hT hm hm8
  have e120 : σ.2.1 120 = τ.2.1 120 := funext fun k => (hm 120 k (by decide)).symm
  have hn : 1 ≤ (ax_f_many (τ.2.1 120)).toInt ∧ (ax_f_many (τ.2.1 120)).toInt ≤ 6 := ax_many6 (e120 ▸ h1)
  refine kr_iload_n 1 rd_d_X12_stand_5 rfl ?_
  refine kr_iconst (v := 0) rd_d_X12_stand_6 (by decide) ?_
  refine kr_aload_n 0 rd_d_X12_stand_7 rfl ?_
  refine rd_call G (T2 := tX12_standMany) rfl rd_d_X12_stand_8 rd_k_X12_stand_8 rfl (hT.1 118 (.inl 12) rfl) (as := []) (st := [.int 0, .int a]) rfl (Nat.le_of_ble_eq_true rfl) rfl (Nat.le_of_ble_eq_true rfl) (d1 := 2) (by decide) (fun _ h => by cases h.1) (ax_many G hT ) ?_
  intro v1 σ1 ⟨hv1, hs1⟩
  cases hv1
  rw [hs1]
  refine kr_iconst (v := 1) rd_d_X12_stand_11 (by decide) ?_
  refine kr_isub rd_d_X12_stand_12 ?_
  refine rd_callS G (T2 := tX12_isIn) rfl rd_d_X12_stand_13 rd_k_X12_stand_13 rfl rfl (as := [.int a, .int 0, .int ((ax_f_many (τ.2.1 120)) - 1)]) (st := []) rfl (Nat.le_of_ble_eq_true rfl) rfl (Nat.le_of_ble_eq_true rfl) (d1 := 1) (by decide) (fun _ h => by cases h.1) (ax_isIn G hT a 0 ((ax_f_many (τ.2.1 120)) - 1)) ?_
  intro v2 σ2 ⟨hv2, hs2⟩
  cases hv2
  rw [hs2]
  refine kr_if_ne (tgt := 21) rd_d_X12_stand_16 rfl (fun h3 => ?_) (fun h3 => ?_)
  · refine kr_iload_n 2 rd_d_X12_stand_21 rfl ?_
    refine kr_if_ne (tgt := 33) rd_d_X12_stand_22 rfl (fun h4 => ?_) (fun h4 => ?_)
    · refine kr_iload_n 2 rd_d_X12_stand_33 rfl ?_
      refine kr_iconst (v := 1) rd_d_X12_stand_34 (by decide) ?_
      refine kr_icmp_ne (tgt := 46) rd_d_X12_stand_35 rfl (fun h5 => ?_) (fun h5 => ?_)
      · refine kr_iconst (v := (-1)) rd_d_X12_stand_46 (by decide) ?_
        exact kr_ireturn rd_d_X12_stand_47 (ty := .int) rfl rfl (by rw [e120, ax_f_stM, if_neg h3, if_neg h4, if_neg h5])
      · refine kr_aload_n 0 rd_d_X12_stand_38 rfl ?_
        refine kr_iload_n 1 rd_d_X12_stand_39 rfl ?_
        refine rd_call G (T2 := tX12_weightOf) rfl rd_d_X12_stand_40 rd_k_X12_stand_40 rfl (hT.1 118 (.inl 12) rfl) (as := [.int a]) (st := []) rfl (Nat.le_of_ble_eq_true rfl) rfl (Nat.le_of_ble_eq_true rfl) (d1 := 1) (by decide) (fun _ h => by cases h.1) (ax_wgtM G hT a (a.toInt.toNat) (ax_inj hn h3).1 (ax_inj hn h3).2.1) ?_
        intro v6 σ6 ⟨hv6, hs6⟩
        cases hv6
        rw [hs6]
        refine kr_goto (tgt := 47) rd_d_X12_stand_43 rfl ?_
        exact kr_ireturn rd_d_X12_stand_47 (ty := .int) rfl rfl (by rw [e120, ax_f_stM, if_neg h3, if_neg h4, if_pos h5])
    · refine kr_aload_n 0 rd_d_X12_stand_25 rfl ?_
      refine kr_iload_n 1 rd_d_X12_stand_26 rfl ?_
      refine rd_call G (T2 := tX12_secondsOf) rfl rd_d_X12_stand_27 rd_k_X12_stand_27 rfl (hT.1 118 (.inl 12) rfl) (as := [.int a]) (st := []) rfl (Nat.le_of_ble_eq_true rfl) rfl (Nat.le_of_ble_eq_true rfl) (d1 := 1) (by decide) (fun _ h => by cases h.1) (ax_secM G hT a (a.toInt.toNat) (ax_inj hn h3).1 (ax_inj hn h3).2.1) ?_
      intro v7 σ7 ⟨hv7, hs7⟩
      cases hv7
      rw [hs7]
      refine kr_goto (tgt := 47) rd_d_X12_stand_30 rfl ?_
      exact kr_ireturn rd_d_X12_stand_47 (ty := .int) rfl rfl (by rw [e120, ax_f_stM, if_neg h3, if_pos h4])
  · refine kr_iconst (v := (-1)) rd_d_X12_stand_19 (by decide) ?_
    exact kr_ireturn rd_d_X12_stand_20 (ty := .int) rfl rfl (by rw [e120, ax_f_stM, if_pos h3])
end AX
