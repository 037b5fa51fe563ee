/-! exact answers, further (rows written by a program) -/
theorem rd_d_X12_earns_0 : decode tX12_earns.1.2.1 0 = .ok (.aload_n 0, 1) := by decide +kernel
theorem rd_d_X12_earns_1 : decode tX12_earns.1.2.1 1 = .ok (.iload_n 1, 1) := by decide +kernel
theorem rd_d_X12_earns_2 : decode tX12_earns.1.2.1 2 = .ok (.iconst 1, 1) := by decide +kernel
theorem rd_d_X12_earns_3 : decode tX12_earns.1.2.1 3 = .ok (.aload_n 0, 1) := by decide +kernel
theorem rd_d_X12_earns_4 : decode tX12_earns.1.2.1 4 = .ok (.getfield 33, 3) := by decide +kernel
theorem rd_k_X12_earns_4 : ex_lk ex_mt tX12_earns 4 (.getfield 33) [12, 6, 2, 458773] = true := by decide +kernel
theorem rd_d_X12_earns_7 : decode tX12_earns.1.2.1 7 = .ok (.iconst 0, 1) := by decide +kernel
theorem rd_d_X12_earns_8 : decode tX12_earns.1.2.1 8 = .ok (.iaload, 1) := by decide +kernel
theorem rd_d_X12_earns_9 : decode tX12_earns.1.2.1 9 = .ok (.invokestatic 134, 3) := by decide +kernel
theorem rd_k_X12_earns_9 : ex_lk ex_mt tX12_earns 9 (.invokestatic 134) [0, 119, 458953] = true := by decide +kernel
theorem rd_d_X12_earns_12 : decode tX12_earns.1.2.1 12 = .ok (.ifCond .eq 23, 3) := by decide +kernel
theorem rd_d_X12_earns_15 : decode tX12_earns.1.2.1 15 = .ok (.iload_n 2, 1) := by decide +kernel
theorem rd_d_X12_earns_16 : decode tX12_earns.1.2.1 16 = .ok (.iconst 0, 1) := by decide +kernel
theorem rd_d_X12_earns_17 : decode tX12_earns.1.2.1 17 = .ok (.iload_n 1, 1) := by decide +kernel
theorem rd_d_X12_earns_18 : decode tX12_earns.1.2.1 18 = .ok (.iconst 1, 1) := by decide +kernel
theorem rd_d_X12_earns_19 : decode tX12_earns.1.2.1 19 = .ok (.isub, 1) := by decide +kernel
theorem rd_d_X12_earns_20 : decode tX12_earns.1.2.1 20 = .ok (.invokestatic 134, 3) := by decide +kernel
theorem rd_k_X12_earns_20 : ex_lk ex_mt tX12_earns 20 (.invokestatic 134) [0, 119, 458953] = true := by decide +kernel
theorem rd_d_X12_earns_23 : decode tX12_earns.1.2.1 23 = .ok (.ifCond .eq 12, 3) := by decide +kernel
theorem rd_d_X12_earns_26 : decode tX12_earns.1.2.1 26 = .ok (.iload_n 3, 1) := by decide +kernel
theorem rd_d_X12_earns_27 : decode tX12_earns.1.2.1 27 = .ok (.iconst 0, 1) := by decide +kernel
theorem rd_d_X12_earns_28 : decode tX12_earns.1.2.1 28 = .ok (.iconst 1, 1) := by decide +kernel
theorem rd_d_X12_earns_29 : decode tX12_earns.1.2.1 29 = .ok (.invokestatic 134, 3) := by decide +kernel
theorem rd_k_X12_earns_29 : ex_lk ex_mt tX12_earns 29 (.invokestatic 134) [0, 119, 458953] = true := by decide +kernel
theorem rd_d_X12_earns_32 : decode tX12_earns.1.2.1 32 = .ok (.ifCond .ne 7, 3) := by decide +kernel
theorem rd_d_X12_earns_35 : decode tX12_earns.1.2.1 35 = .ok (.iconst 1, 1) := by decide +kernel
theorem rd_d_X12_earns_36 : decode tX12_earns.1.2.1 36 = .ok (.goto 4, 3) := by decide +kernel
theorem rd_d_X12_earns_39 : decode tX12_earns.1.2.1 39 = .ok (.iconst 0, 1) := by decide +kernel
theorem rd_d_X12_earns_40 : decode tX12_earns.1.2.1 40 = .ok (.invokevirtual 217, 3) := by decide +kernel
theorem rd_k_X12_earns_40 : ex_lk ex_mt tX12_earns 40 (.invokevirtual 217) [0, 177, 524291] = true := by decide +kernel
theorem rd_d_X12_earns_43 : decode tX12_earns.1.2.1 43 = .ok (.ifCond .eq 5, 3) := by decide +kernel
theorem rd_d_X12_earns_46 : decode tX12_earns.1.2.1 46 = .ok (.iconst 0, 1) := by decide +kernel
theorem rd_d_X12_earns_47 : decode tX12_earns.1.2.1 47 = .ok (.ireturn, 1) := by decide +kernel
theorem rd_d_X12_earns_48 : decode tX12_earns.1.2.1 48 = .ok (.aload_n 0, 1) := by decide +kernel
theorem rd_d_X12_earns_49 : decode tX12_earns.1.2.1 49 = .ok (.iload_n 1, 1) := by decide +kernel
theorem rd_d_X12_earns_50 : decode tX12_earns.1.2.1 50 = .ok (.iload_n 2, 1) := by decide +kernel
theorem rd_d_X12_earns_51 : decode tX12_earns.1.2.1 51 = .ok (.invokevirtual 338, 3) := by decide +kernel
theorem rd_k_X12_earns_51 : ex_lk ex_mt tX12_earns 51 (.invokevirtual 338) [0, 101, 524506] = true := by decide +kernel
theorem rd_d_X12_earns_54 : decode tX12_earns.1.2.1 54 = .ok (.aload_n 0, 1) := by decide +kernel
theorem rd_d_X12_earns_55 : decode tX12_earns.1.2.1 55 = .ok (.invokevirtual 282, 3) := by decide +kernel
theorem rd_k_X12_earns_55 : ex_lk ex_mt tX12_earns 55 (.invokevirtual 282) [0, 78, 524433] = true := by decide +kernel
theorem rd_d_X12_earns_58 : decode tX12_earns.1.2.1 58 = .ok (.iload_n 3, 1) := by decide +kernel
theorem rd_d_X12_earns_59 : decode tX12_earns.1.2.1 59 = .ok (.invokestatic 272, 3) := by decide +kernel
theorem rd_k_X12_earns_59 : ex_lk ex_mt tX12_earns 59 (.invokestatic 272) [0, 148, 524418] = true := by decide +kernel
theorem rd_d_X12_earns_62 : decode tX12_earns.1.2.1 62 = .ok (.ireturn, 1) := by decide +kernel
theorem rd_d_X12_curve_0 : decode tX12_curve.1.2.1 0 = .ok (.aload_n 0, 1) := by decide +kernel
theorem rd_d_X12_curve_1 : decode tX12_curve.1.2.1 1 = .ok (.iload_n 1, 1) := by decide +kernel
theorem rd_d_X12_curve_2 : decode tX12_curve.1.2.1 2 = .ok (.iconst 1, 1) := by decide +kernel
theorem rd_d_X12_curve_3 : decode tX12_curve.1.2.1 3 = .ok (.aload_n 0, 1) := by decide +kernel
theorem rd_d_X12_curve_4 : decode tX12_curve.1.2.1 4 = .ok (.getfield 33, 3) := by decide +kernel
theorem rd_k_X12_curve_4 : ex_lk ex_mt tX12_curve 4 (.getfield 33) [12, 6, 2, 458773] = true := by decide +kernel
theorem rd_d_X12_curve_7 : decode tX12_curve.1.2.1 7 = .ok (.iconst 0, 1) := by decide +kernel
theorem rd_d_X12_curve_8 : decode tX12_curve.1.2.1 8 = .ok (.iaload, 1) := by decide +kernel
theorem rd_d_X12_curve_9 : decode tX12_curve.1.2.1 9 = .ok (.invokestatic 134, 3) := by decide +kernel
theorem rd_k_X12_curve_9 : ex_lk ex_mt tX12_curve 9 (.invokestatic 134) [0, 119, 458953] = true := by decide +kernel
theorem rd_d_X12_curve_12 : decode tX12_curve.1.2.1 12 = .ok (.ifCond .eq 12, 3) := by decide +kernel
theorem rd_d_X12_curve_15 : decode tX12_curve.1.2.1 15 = .ok (.iload_n 2, 1) := by decide +kernel
theorem rd_d_X12_curve_16 : decode tX12_curve.1.2.1 16 = .ok (.iconst 0, 1) := by decide +kernel
theorem rd_d_X12_curve_17 : decode tX12_curve.1.2.1 17 = .ok (.iconst 1, 1) := by decide +kernel
theorem rd_d_X12_curve_18 : decode tX12_curve.1.2.1 18 = .ok (.invokestatic 134, 3) := by decide +kernel
theorem rd_k_X12_curve_18 : ex_lk ex_mt tX12_curve 18 (.invokestatic 134) [0, 119, 458953] = true := by decide +kernel
theorem rd_d_X12_curve_21 : decode tX12_curve.1.2.1 21 = .ok (.ifCond .ne 7, 3) := by decide +kernel
theorem rd_d_X12_curve_24 : decode tX12_curve.1.2.1 24 = .ok (.iconst 1, 1) := by decide +kernel
theorem rd_d_X12_curve_25 : decode tX12_curve.1.2.1 25 = .ok (.goto 4, 3) := by decide +kernel
theorem rd_d_X12_curve_28 : decode tX12_curve.1.2.1 28 = .ok (.iconst 0, 1) := by decide +kernel
theorem rd_d_X12_curve_29 : decode tX12_curve.1.2.1 29 = .ok (.invokevirtual 217, 3) := by decide +kernel
theorem rd_k_X12_curve_29 : ex_lk ex_mt tX12_curve 29 (.invokevirtual 217) [0, 177, 524291] = true := by decide +kernel
theorem rd_d_X12_curve_32 : decode tX12_curve.1.2.1 32 = .ok (.ifCond .eq 5, 3) := by decide +kernel
theorem rd_d_X12_curve_35 : decode tX12_curve.1.2.1 35 = .ok (.iconst 0, 1) := by decide +kernel
theorem rd_d_X12_curve_36 : decode tX12_curve.1.2.1 36 = .ok (.ireturn, 1) := by decide +kernel
theorem rd_d_X12_curve_37 : decode tX12_curve.1.2.1 37 = .ok (.iconst 0, 1) := by decide +kernel
theorem rd_d_X12_curve_38 : decode tX12_curve.1.2.1 38 = .ok (.istore_n 3, 1) := by decide +kernel
theorem rd_d_X12_curve_39 : decode tX12_curve.1.2.1 39 = .ok (.iconst 0, 1) := by decide +kernel
theorem rd_d_X12_curve_40 : decode tX12_curve.1.2.1 40 = .ok (.istore 4, 2) := by decide +kernel
theorem rd_d_X12_curve_42 : decode tX12_curve.1.2.1 42 = .ok (.iload 4, 2) := by decide +kernel
theorem rd_d_X12_curve_44 : decode tX12_curve.1.2.1 44 = .ok (.iload_n 1, 1) := by decide +kernel
theorem rd_d_X12_curve_45 : decode tX12_curve.1.2.1 45 = .ok (.if_icmp .ge 19, 3) := by decide +kernel
theorem rd_d_X12_curve_48 : decode tX12_curve.1.2.1 48 = .ok (.iload_n 3, 1) := by decide +kernel
theorem rd_d_X12_curve_49 : decode tX12_curve.1.2.1 49 = .ok (.aload_n 0, 1) := by decide +kernel
theorem rd_d_X12_curve_50 : decode tX12_curve.1.2.1 50 = .ok (.iload_n 1, 1) := by decide +kernel
theorem rd_d_X12_curve_51 : decode tX12_curve.1.2.1 51 = .ok (.iload 4, 2) := by decide +kernel
theorem rd_d_X12_curve_53 : decode tX12_curve.1.2.1 53 = .ok (.invokevirtual 338, 3) := by decide +kernel
theorem rd_k_X12_curve_53 : ex_lk ex_mt tX12_curve 53 (.invokevirtual 338) [0, 101, 524506] = true := by decide +kernel
theorem rd_d_X12_curve_56 : decode tX12_curve.1.2.1 56 = .ok (.iadd, 1) := by decide +kernel
theorem rd_d_X12_curve_57 : decode tX12_curve.1.2.1 57 = .ok (.istore_n 3, 1) := by decide +kernel
theorem rd_d_X12_curve_58 : decode tX12_curve.1.2.1 58 = .ok (.iinc 4 1, 3) := by decide +kernel
theorem rd_d_X12_curve_61 : decode tX12_curve.1.2.1 61 = .ok (.goto (-19), 3) := by decide +kernel
theorem rd_d_X12_curve_64 : decode tX12_curve.1.2.1 64 = .ok (.iload_n 3, 1) := by decide +kernel
theorem rd_d_X12_curve_65 : decode tX12_curve.1.2.1 65 = .ok (.aload_n 0, 1) := by decide +kernel
theorem rd_d_X12_curve_66 : decode tX12_curve.1.2.1 66 = .ok (.invokevirtual 282, 3) := by decide +kernel
theorem rd_k_X12_curve_66 : ex_lk ex_mt tX12_curve 66 (.invokevirtual 282) [0, 78, 524433] = true := by decide +kernel
theorem rd_d_X12_curve_69 : decode tX12_curve.1.2.1 69 = .ok (.iload_n 2, 1) := by decide +kernel
theorem rd_d_X12_curve_70 : decode tX12_curve.1.2.1 70 = .ok (.invokestatic 272, 3) := by decide +kernel
theorem rd_k_X12_curve_70 : ex_lk ex_mt tX12_curve 70 (.invokestatic 272) [0, 148, 524418] = true := by decide +kernel
theorem rd_d_X12_curve_73 : decode tX12_curve.1.2.1 73 = .ok (.ireturn, 1) := by decide +kernel
section AXX
variable {g : am_C} {L : Nat} {xs : Nat → Int32}
def ax_f_eaM (s : Nat → Int32) (n k d : Int32) : Option Int32 := if (ax_f_isIn n 1 (s 0)) = 0 then none else if (ax_f_isIn k 0 (n - 1)) = 0 then none else if (ax_f_isIn d 0 1) = 0 then none else some (ax_pt (pz_sgV (s) n k) (ax_f_bel (s)) d)
theorem ax_eaM (G : sx_G0 g L xs z9 hd_C ex_mt) {σ : am_S} (hS : ax_S σ) (b : pn_B (σ.2.1 120)) (b3 : pl_B3 (σ.2.1 120)) (b6 : pl_B6 (σ.2.1 120)) (n k d : Int32) : am_K g 12 tX12_earns.1 0 0 0 (lv_args 0 [.ref 118, .int n, .int k, .int d]) [] σ (ax_TM 0 (ax_f_eaM (σ.2.1 120) n k d)) := by
  refine kr_aload_n 0 rd_d_X12_earns_0 rfl ?_
  refine kr_iload_n 1 rd_d_X12_earns_1 rfl ?_
  refine kr_iconst (v := 1) rd_d_X12_earns_2 (by decide) ?_
  refine kr_aload_n 0 rd_d_X12_earns_3 rfl ?_
  refine kr_getf G.1 (rd_FL rd_k_X12_earns_4).1 rd_d_X12_earns_4 (hS.1 118 (.inl 12) rfl) (v := .ref 120) (by unfold am_fa; rw [(rd_FL rd_k_X12_earns_4).2]; exact hS.2 118 6 120 rfl) ?_
  refine kr_iconst (v := 0) rd_d_X12_earns_7 (by decide) ?_
  refine kr_iald G.1 (n := 277) rd_d_X12_earns_8 (hS.1 120 (.inr (.int, 277)) rfl) (hd_in (n := 0) (by decide) (by decide)) ?_
  rw [hd_clamp (n := 0) (by decide)]
  refine rd_callS G (T2 := tX12_isIn) rfl rd_d_X12_earns_9 rd_k_X12_earns_9 rfl rfl (as := [.int n, .int 1, .int (σ.2.1 120 0)]) (st := [.ref 118]) rfl (Nat.le_of_ble_eq_true rfl) rfl (Nat.le_of_ble_eq_true rfl) (d1 := 1) (by decide) (fun _ h => by cases h.1) (ax_isIn G hS n 1 (σ.2.1 120 0)) ?_
  intro v1 σ1 ⟨hv1, hs1⟩
  cases hv1
  rw [hs1]
  refine kr_if_eq (tgt := 35) rd_d_X12_earns_12 rfl (fun h2 => ?_) (fun h2 => ?_)
  · refine kr_iconst (v := 1) rd_d_X12_earns_35 (by decide) ?_
    refine kr_goto (tgt := 40) rd_d_X12_earns_36 rfl ?_
    refine rd_call G (T2 := tX12_throwsIf) rfl rd_d_X12_earns_40 rd_k_X12_earns_40 rfl (hS.1 118 (.inl 12) rfl) (as := [.int 1]) (st := []) rfl (Nat.le_of_ble_eq_true rfl) rfl (Nat.le_of_ble_eq_true rfl) (d1 := 1) (by decide) (fun _ h => by cases h.1) (ax_tif1 G hS) ?_
    intro v0 τ ⟨hv0, hT, hm, hK⟩
    cases hv0
    refine kr_if_eq (tgt := 48) rd_d_X12_earns_43 rfl (fun h => absurd h (by decide)) (fun _ => ?_)
    refine kr_iconst (v := 0) rd_d_X12_earns_46 (by decide) ?_
    refine kr_ireturn rd_d_X12_earns_47 (ty := .int) rfl rfl ⟨_, rfl, hT, ?_⟩
    rw [ax_f_eaM, if_pos h2]
    exact hK
  · refine kr_iload_n 2 rd_d_X12_earns_15 rfl ?_
    refine kr_iconst (v := 0) rd_d_X12_earns_16 (by decide) ?_
    refine kr_iload_n 1 rd_d_X12_earns_17 rfl ?_
    refine kr_iconst (v := 1) rd_d_X12_earns_18 (by decide) ?_
    refine kr_isub rd_d_X12_earns_19 ?_
    refine rd_callS G (T2 := tX12_isIn) rfl rd_d_X12_earns_20 rd_k_X12_earns_20 rfl rfl (as := [.int k, .int 0, .int (n - 1)]) (st := [.ref 118]) rfl (Nat.le_of_ble_eq_true rfl) rfl (Nat.le_of_ble_eq_true rfl) (d1 := 1) (by decide) (fun _ h => by cases h.1) (ax_isIn G hS k 0 (n - 1)) ?_
    intro v3 σ3 ⟨hv3, hs3⟩
    cases hv3
    rw [hs3]
    refine kr_if_eq (tgt := 35) rd_d_X12_earns_23 rfl (fun h4 => ?_) (fun h4 => ?_)
    · refine kr_iconst (v := 1) rd_d_X12_earns_35 (by decide) ?_
      refine kr_goto (tgt := 40) rd_d_X12_earns_36 rfl ?_
      refine rd_call G (T2 := tX12_throwsIf) rfl rd_d_X12_earns_40 rd_k_X12_earns_40 rfl (hS.1 118 (.inl 12) rfl) (as := [.int 1]) (st := []) rfl (Nat.le_of_ble_eq_true rfl) rfl (Nat.le_of_ble_eq_true rfl) (d1 := 1) (by decide) (fun _ h => by cases h.1) (ax_tif1 G hS) ?_
      intro v0 τ ⟨hv0, hT, hm, hK⟩
      cases hv0
      refine kr_if_eq (tgt := 48) rd_d_X12_earns_43 rfl (fun h => absurd h (by decide)) (fun _ => ?_)
      refine kr_iconst (v := 0) rd_d_X12_earns_46 (by decide) ?_
      refine kr_ireturn rd_d_X12_earns_47 (ty := .int) rfl rfl ⟨_, rfl, hT, ?_⟩
      rw [ax_f_eaM, if_neg h2, if_pos h4]
      exact hK
    · refine kr_iload_n 3 rd_d_X12_earns_26 rfl ?_
      refine kr_iconst (v := 0) rd_d_X12_earns_27 (by decide) ?_
      refine kr_iconst (v := 1) rd_d_X12_earns_28 (by decide) ?_
      refine rd_callS G (T2 := tX12_isIn) rfl rd_d_X12_earns_29 rd_k_X12_earns_29 rfl rfl (as := [.int d, .int 0, .int 1]) (st := [.ref 118]) rfl (Nat.le_of_ble_eq_true rfl) rfl (Nat.le_of_ble_eq_true rfl) (d1 := 1) (by decide) (fun _ h => by cases h.1) (ax_isIn G hS d 0 1) ?_
      intro v5 σ5 ⟨hv5, hs5⟩
      cases hv5
      rw [hs5]
      refine kr_if_ne (tgt := 39) rd_d_X12_earns_32 rfl (fun h6 => ?_) (fun h6 => ?_)
      · refine kr_iconst (v := 0) rd_d_X12_earns_39 (by decide) ?_
        refine rd_call G (T2 := tX12_throwsIf) rfl rd_d_X12_earns_40 rd_k_X12_earns_40 rfl (hS.1 118 (.inl 12) rfl) (as := [.int 0]) (st := []) rfl (Nat.le_of_ble_eq_true rfl) rfl (Nat.le_of_ble_eq_true rfl) (d1 := 1) (by decide) (fun _ h => by cases h.1) (ax_tif0 G hS) ?_
        intro v0 τ ⟨hv0, hT, hm, hK⟩
        cases hv0
        refine kr_if_eq (tgt := 48) rd_d_X12_earns_43 rfl (fun _ => ?_) (fun h => absurd rfl h)
        have eT : τ.2.1 120 = σ.2.1 120 := funext fun q => hm 120 q (by decide)
        have hs1 := b.1.1
        have z1 : (1 : Int32).toInt = 1 := rfl
        have z0 : (0 : Int32).toInt = 0 := rfl
        have c1 := pz_in h2
        have c2 := pz_in h4
        have e1 := sx_subI n 1 (by show (-2147483648 : Int) ≤ _; omega) (by show _ ≤ (2147483647 : Int); omega)
        have ek : k.toInt = ((k.toInt.toNat : Nat) : Int) := by omega
        have en : n.toInt = ((n.toInt.toNat : Nat) : Int) := by omega
        have hN : n.toInt.toNat ≤ pz_W (σ.2.1 120) := by unfold pz_W; omega
        refine kr_aload_n 0 rd_d_X12_earns_48 rfl ?_
        refine kr_iload_n 1 rd_d_X12_earns_49 rfl ?_
        refine kr_iload_n 2 rd_d_X12_earns_50 rfl ?_
        refine rd_call G (T2 := tX12_earned) rfl rd_d_X12_earns_51 rd_k_X12_earns_51 rfl (hT.1 118 (.inl 12) rfl) (as := [.int n, .int k]) (st := []) rfl (Nat.le_of_ble_eq_true rfl) rfl (Nat.le_of_ble_eq_true rfl) (d1 := 10) (by decide) (fun _ h => by obtain ⟨⟨y, h, -⟩, -⟩ := h; cases h) (ax_erM G b b6 hT eT en ek (by omega) hN (by omega)) ?_
        intro v1 τ1 ⟨⟨z, hv1, hz⟩, hT1, hf1⟩
        cases hv1
        have eT1 : τ1.2.1 120 = σ.2.1 120 := (funext fun q => hf1 120 q (by decide) (by decide)).trans eT
        have hb : pl_B (τ1.2.1 120) := by rw [eT1]; exact b.1
        have ey : z = pz_sgV (σ.2.1 120) n k := ch_ofN hz
        refine kr_aload_n 0 rd_d_X12_earns_54 rfl ?_
        refine rd_call G (T2 := tX12_below) rfl rd_d_X12_earns_55 rd_k_X12_earns_55 rfl (hT1.1 118 (.inl 12) rfl) (as := []) (st := [.int z]) rfl (Nat.le_of_ble_eq_true rfl) rfl (Nat.le_of_ble_eq_true rfl) (d1 := 4) (by decide) (fun _ h => by cases h.1) (ax_bel G hT1 hb) ?_
        intro v41 σ41 ⟨hv41, hs41⟩
        cases hv41
        rw [hs41]
        refine kr_iload_n 3 rd_d_X12_earns_58 rfl ?_
        refine rd_callS G (T2 := tX12_part) rfl rd_d_X12_earns_59 rd_k_X12_earns_59 rfl rfl (as := [.int z, .int (ax_f_bel (τ1.2.1 120)), .int d]) (st := []) rfl (Nat.le_of_ble_eq_true rfl) rfl (Nat.le_of_ble_eq_true rfl) (d1 := 1) (by decide) (fun _ h => by cases h.1) (ax_ptM G z (ax_f_bel (τ1.2.1 120)) d (by rw [hz]; exact Int.natCast_nonneg _) (by rw [eT1]; exact bel_b b.1 b.2.1 b3)) ?_
        intro v42 σ42 ⟨hv42, hs42⟩
        cases hv42
        rw [hs42]
        refine kr_ireturn rd_d_X12_earns_62 (ty := .int) rfl rfl ⟨_, rfl, hT1, ?_⟩
        rw [ax_f_eaM, if_neg h2, if_neg h4, if_neg h6]
        exact ⟨by rw [eT1, ey], by rw [hf1 118 0 (by decide) (by decide)]; exact hK⟩
      · refine kr_iconst (v := 1) rd_d_X12_earns_35 (by decide) ?_
        refine kr_goto (tgt := 40) rd_d_X12_earns_36 rfl ?_
        refine rd_call G (T2 := tX12_throwsIf) rfl rd_d_X12_earns_40 rd_k_X12_earns_40 rfl (hS.1 118 (.inl 12) rfl) (as := [.int 1]) (st := []) rfl (Nat.le_of_ble_eq_true rfl) rfl (Nat.le_of_ble_eq_true rfl) (d1 := 1) (by decide) (fun _ h => by cases h.1) (ax_tif1 G hS) ?_
        intro v0 τ ⟨hv0, hT, hm, hK⟩
        cases hv0
        refine kr_if_eq (tgt := 48) rd_d_X12_earns_43 rfl (fun h => absurd h (by decide)) (fun _ => ?_)
        refine kr_iconst (v := 0) rd_d_X12_earns_46 (by decide) ?_
        refine kr_ireturn rd_d_X12_earns_47 (ty := .int) rfl rfl ⟨_, rfl, hT, ?_⟩
        rw [ax_f_eaM, if_neg h2, if_neg h4, if_pos h6]
        exact hK
theorem ax_cML (G : sx_G0 g L xs z9 hd_C ex_mt) {s : Nat → Int32} (b : pn_B s) (b6 : pl_B6 s) {n d : Int32} {N : Nat} (en : n.toInt = (N : Int)) (h1 : 1 ≤ N) (h2 : N ≤ pz_W s) {post : Option (Option Value) → am_S → Prop} : ∀ (f j : Nat) (k a : Int32) (σ : am_S), ax_S σ → σ.2.1 120 = s → k.toInt = (j : Int) → j + f = N → a.toInt = (pz_cu s N j : Int) → (∀ (k2 z : Int32) (σ' : am_S), ax_S σ' → (∀ x y, x ≠ 125 → x ≠ 126 → σ'.2.1 x y = σ.2.1 x y) → z.toInt = (pz_cu s N N : Int) → am_K g 12 tX12_curve.1 0 0 64 [(4, .int k2), (3, .int z), (0, .ref 118), (1, .int n), (2, .int d)] [] σ' post) → am_K g 12 tX12_curve.1 0 0 42 [(4, .int k), (3, .int a), (0, .ref 118), (1, .int n), (2, .int d)] [] σ post := by
  have hW10 : pz_W s ≤ 10 := by have := b.1.1.2; unfold pz_W; omega
  intro f
  induction f with
  | zero =>
    intro j k a σ hS hs ek hj ha kk
    refine kr_iload 0 rd_d_X12_curve_42 rfl ?_
    refine kr_iload_n 3 rd_d_X12_curve_44 rfl ?_
    refine kr_icmp_ge (tgt := 64) rd_d_X12_curve_45 rfl (fun h1 => ?_) (fun h1 => ?_)
    · have e : j = N := by omega
      subst e
      exact kk k a σ hS (fun _ _ _ _ => rfl) ha
    · exact absurd (Int32.le_iff_toInt_le.mpr (by omega)) h1
  | succ f ih =>
    intro j k a σ hS hs ek hj ha kk
    refine kr_iload 0 rd_d_X12_curve_42 rfl ?_
    refine kr_iload_n 3 rd_d_X12_curve_44 rfl ?_
    refine kr_icmp_ge (tgt := 64) rd_d_X12_curve_45 rfl (fun h21 => ?_) (fun h21 => ?_)
    · have := Int32.le_iff_toInt_le.mp h21
      omega
    · refine kr_iload_n 1 rd_d_X12_curve_48 rfl ?_
      refine kr_aload_n 2 rd_d_X12_curve_49 rfl ?_
      refine kr_iload_n 3 rd_d_X12_curve_50 rfl ?_
      refine kr_iload 0 rd_d_X12_curve_51 rfl ?_
      refine rd_call G (T2 := tX12_earned) rfl rd_d_X12_curve_53 rd_k_X12_curve_53 rfl (hS.1 118 (.inl 12) rfl) (as := [.int n, .int k]) (st := [.int a]) rfl (Nat.le_of_ble_eq_true rfl) rfl (Nat.le_of_ble_eq_true rfl) (d1 := 10) (by decide) (fun _ h => by obtain ⟨⟨y, h, -⟩, -⟩ := h; cases h) (ax_erM G b b6 hS hs en ek h1 h2 (by omega)) ?_
      intro v1 σ1 ⟨⟨z, hv1, hz⟩, hS1, hf1⟩
      cases hv1
      have hs1 : σ1.2.1 120 = s := (funext fun q => hf1 120 q (by decide) (by decide)).trans hs
      refine kr_iadd rd_d_X12_curve_56 ?_
      refine kr_istore_n (lv' := [(3, .int (a + z)), (4, .int k), (0, .ref 118), (1, .int n), (2, .int d)]) rd_d_X12_curve_57 (by decide) rfl ?_
      refine kr_iinc (v := k + 1) (lv' := [(4, .int (k + 1)), (3, .int (a + z)), (0, .ref 118), (1, .int n), (2, .int d)]) 1 rd_d_X12_curve_58 rfl rfl (by decide) rfl ?_
      refine kr_goto (tgt := 42) rd_d_X12_curve_61 rfl ?_
      have hc1 := pz_cu_le b b6 h1 h2 j (by omega)
      have hc2 := pz_sg_le b b6 h1 h2 (K := j) (by omega)
      refine kr_sub (lv' := [(4, .int (k + 1)), (3, .int (a + z)), (0, .ref 118), (1, .int n), (2, .int d)]) (by simp) ?_
      exact ih (j + 1) (k + 1) (a + z) σ1 hS1 hs1 (ax_inc ek (by omega)) (by omega) (ch_add ha hz (by omega)) (fun k2 z' σ' a1 a2 a3 => kk k2 z' σ' a1 (fun x y x5 x6 => (a2 x y x5 x6).trans (hf1 x y x5 x6)) a3)
def ax_f_cuM (s : Nat → Int32) (n d : Int32) : Option Int32 := if (ax_f_isIn n 1 (s 0)) = 0 then none else if (ax_f_isIn d 0 1) = 0 then none else some (ax_pt (pz_cuV (s) n) (ax_f_bel (s)) d)
theorem ax_cuM (G : sx_G0 g L xs z9 hd_C ex_mt) {σ : am_S} (hS : ax_S σ) (b : pn_B (σ.2.1 120)) (b3 : pl_B3 (σ.2.1 120)) (b6 : pl_B6 (σ.2.1 120)) (n d : Int32) : am_K g 12 tX12_curve.1 0 0 0 (lv_args 0 [.ref 118, .int n, .int d]) [] σ (ax_TM 0 (ax_f_cuM (σ.2.1 120) n d)) := by
  refine kr_aload_n 0 rd_d_X12_curve_0 rfl ?_
  refine kr_iload_n 1 rd_d_X12_curve_1 rfl ?_
  refine kr_iconst (v := 1) rd_d_X12_curve_2 (by decide) ?_
  refine kr_aload_n 0 rd_d_X12_curve_3 rfl ?_
  refine kr_getf G.1 (rd_FL rd_k_X12_curve_4).1 rd_d_X12_curve_4 (hS.1 118 (.inl 12) rfl) (v := .ref 120) (by unfold am_fa; rw [(rd_FL rd_k_X12_curve_4).2]; exact hS.2 118 6 120 rfl) ?_
  refine kr_iconst (v := 0) rd_d_X12_curve_7 (by decide) ?_
  refine kr_iald G.1 (n := 277) rd_d_X12_curve_8 (hS.1 120 (.inr (.int, 277)) rfl) (hd_in (n := 0) (by decide) (by decide)) ?_
  rw [hd_clamp (n := 0) (by decide)]
  refine rd_callS G (T2 := tX12_isIn) rfl rd_d_X12_curve_9 rd_k_X12_curve_9 rfl rfl (as := [.int n, .int 1, .int (σ.2.1 120 0)]) (st := [.ref 118]) rfl (Nat.le_of_ble_eq_true rfl) rfl (Nat.le_of_ble_eq_true rfl) (d1 := 1) (by decide) (fun _ h => by cases h.1) (ax_isIn G hS n 1 (σ.2.1 120 0)) ?_
  intro v1 σ1 ⟨hv1, hs1⟩
  cases hv1
  rw [hs1]
  refine kr_if_eq (tgt := 24) rd_d_X12_curve_12 rfl (fun h2 => ?_) (fun h2 => ?_)
  · refine kr_iconst (v := 1) rd_d_X12_curve_24 (by decide) ?_
    refine kr_goto (tgt := 29) rd_d_X12_curve_25 rfl ?_
    refine rd_call G (T2 := tX12_throwsIf) rfl rd_d_X12_curve_29 rd_k_X12_curve_29 rfl (hS.1 118 (.inl 12) rfl) (as := [.int 1]) (st := []) rfl (Nat.le_of_ble_eq_true rfl) rfl (Nat.le_of_ble_eq_true rfl) (d1 := 1) (by decide) (fun _ h => by cases h.1) (ax_tif1 G hS) ?_
    intro v0 τ ⟨hv0, hT, hm, hK⟩
    cases hv0
    refine kr_if_eq (tgt := 37) rd_d_X12_curve_32 rfl (fun h => absurd h (by decide)) (fun _ => ?_)
    refine kr_iconst (v := 0) rd_d_X12_curve_35 (by decide) ?_
    refine kr_ireturn rd_d_X12_curve_36 (ty := .int) rfl rfl ⟨_, rfl, hT, ?_⟩
    rw [ax_f_cuM, if_pos h2]
    exact hK
  · refine kr_iload_n 2 rd_d_X12_curve_15 rfl ?_
    refine kr_iconst (v := 0) rd_d_X12_curve_16 (by decide) ?_
    refine kr_iconst (v := 1) rd_d_X12_curve_17 (by decide) ?_
    refine rd_callS G (T2 := tX12_isIn) rfl rd_d_X12_curve_18 rd_k_X12_curve_18 rfl rfl (as := [.int d, .int 0, .int 1]) (st := [.ref 118]) rfl (Nat.le_of_ble_eq_true rfl) rfl (Nat.le_of_ble_eq_true rfl) (d1 := 1) (by decide) (fun _ h => by cases h.1) (ax_isIn G hS d 0 1) ?_
    intro v3 σ3 ⟨hv3, hs3⟩
    cases hv3
    rw [hs3]
    refine kr_if_ne (tgt := 28) rd_d_X12_curve_21 rfl (fun h4 => ?_) (fun h4 => ?_)
    · refine kr_iconst (v := 0) rd_d_X12_curve_28 (by decide) ?_
      refine rd_call G (T2 := tX12_throwsIf) rfl rd_d_X12_curve_29 rd_k_X12_curve_29 rfl (hS.1 118 (.inl 12) rfl) (as := [.int 0]) (st := []) rfl (Nat.le_of_ble_eq_true rfl) rfl (Nat.le_of_ble_eq_true rfl) (d1 := 1) (by decide) (fun _ h => by cases h.1) (ax_tif0 G hS) ?_
      intro v0 τ ⟨hv0, hT, hm, hK⟩
      cases hv0
      refine kr_if_eq (tgt := 37) rd_d_X12_curve_32 rfl (fun _ => ?_) (fun h => absurd rfl h)
      have eT : τ.2.1 120 = σ.2.1 120 := funext fun q => hm 120 q (by decide)
      have hs1 := b.1.1
      have z1 : (1 : Int32).toInt = 1 := rfl
      have z0 : (0 : Int32).toInt = 0 := rfl
      have c1 := pz_in h2
      have en : n.toInt = ((n.toInt.toNat : Nat) : Int) := by omega
      have hN : n.toInt.toNat ≤ pz_W (σ.2.1 120) := by unfold pz_W; omega
      refine kr_iconst (v := 0) rd_d_X12_curve_37 (by decide) ?_
      refine kr_istore_n (lv' := [(3, .int 0), (0, .ref 118), (1, .int n), (2, .int d)]) rd_d_X12_curve_38 (by decide) rfl ?_
      refine kr_iconst (v := 0) rd_d_X12_curve_39 (by decide) ?_
      refine kr_istore (lv' := [(4, .int 0), (3, .int 0), (0, .ref 118), (1, .int n), (2, .int d)]) rd_d_X12_curve_40 (by decide) rfl ?_
      refine ax_cML G b b6 en (by omega) hN n.toInt.toNat 0 0 0 τ hT eT rfl (by omega) rfl ?_
      intro k2 z τ1 hT1 hf1 hz
      have eT1 : τ1.2.1 120 = σ.2.1 120 := (funext fun q => hf1 120 q (by decide) (by decide)).trans eT
      have hb : pl_B (τ1.2.1 120) := by rw [eT1]; exact b.1
      have ey : z = pz_cuV (σ.2.1 120) n := ch_ofN hz
      refine kr_iload_n 1 rd_d_X12_curve_64 rfl ?_
      refine kr_aload_n 2 rd_d_X12_curve_65 rfl ?_
      refine rd_call G (T2 := tX12_below) rfl rd_d_X12_curve_66 rd_k_X12_curve_66 rfl (hT1.1 118 (.inl 12) rfl) (as := []) (st := [.int z]) rfl (Nat.le_of_ble_eq_true rfl) rfl (Nat.le_of_ble_eq_true rfl) (d1 := 4) (by decide) (fun _ h => by cases h.1) (ax_bel G hT1 hb) ?_
      intro v61 σ61 ⟨hv61, hs61⟩
      cases hv61
      rw [hs61]
      refine kr_iload_n 4 rd_d_X12_curve_69 rfl ?_
      refine rd_callS G (T2 := tX12_part) rfl rd_d_X12_curve_70 rd_k_X12_curve_70 rfl rfl (as := [.int z, .int (ax_f_bel (τ1.2.1 120)), .int d]) (st := []) rfl (Nat.le_of_ble_eq_true rfl) rfl (Nat.le_of_ble_eq_true rfl) (d1 := 1) (by decide) (fun _ h => by cases h.1) (ax_ptM G z (ax_f_bel (τ1.2.1 120)) d (by rw [hz]; exact Int.natCast_nonneg _) (by rw [eT1]; exact bel_b b.1 b.2.1 b3)) ?_
      intro v62 σ62 ⟨hv62, hs62⟩
      cases hv62
      rw [hs62]
      refine kr_ireturn rd_d_X12_curve_73 (ty := .int) rfl rfl ⟨_, rfl, hT1, ?_⟩
      rw [ax_f_cuM, if_neg h2, if_neg h4]
      exact ⟨by rw [eT1, ey], by rw [hf1 118 0 (by decide) (by decide)]; exact hK⟩
    · refine kr_iconst (v := 1) rd_d_X12_curve_24 (by decide) ?_
      refine kr_goto (tgt := 29) rd_d_X12_curve_25 rfl ?_
      refine rd_call G (T2 := tX12_throwsIf) rfl rd_d_X12_curve_29 rd_k_X12_curve_29 rfl (hS.1 118 (.inl 12) rfl) (as := [.int 1]) (st := []) rfl (Nat.le_of_ble_eq_true rfl) rfl (Nat.le_of_ble_eq_true rfl) (d1 := 1) (by decide) (fun _ h => by cases h.1) (ax_tif1 G hS) ?_
      intro v0 τ ⟨hv0, hT, hm, hK⟩
      cases hv0
      refine kr_if_eq (tgt := 37) rd_d_X12_curve_32 rfl (fun h => absurd h (by decide)) (fun _ => ?_)
      refine kr_iconst (v := 0) rd_d_X12_curve_35 (by decide) ?_
      refine kr_ireturn rd_d_X12_curve_36 (ty := .int) rfl rfl ⟨_, rfl, hT, ?_⟩
      rw [ax_f_cuM, if_neg h2, if_pos h4]
      exact hK
theorem ea_eq {m : Nat → Nat → Int32} {s : Nat → Int32} (h : pl_R m 4 s) (b : pl_B s) (n k d : Int32) : ax_f_eaX m s n k d = ax_f_eaM s n k d := by
  have h7 : m 4 7 = s 0 := pl_w h
  have z1 : (1 : Int32).toInt = 1 := rfl
  have z0 : (0 : Int32).toInt = 0 := rfl
  obtain ⟨⟨b1, b2⟩, -⟩ := b
  have e1 : ax_f_isIn n 1 (s 0) = if n < 1 then 0 else if s 0 < n then 0 else 1 := by rw [ax_f_isIn]
  have e2 : ax_f_isIn k 0 (n - 1) = if k < 0 then 0 else if n - 1 < k then 0 else 1 := by rw [ax_f_isIn]
  rw [ax_f_eaX, ax_f_eaM, h7, isp_eq d, e1, e2]
  by_cases c1 : n < 1
  · rw [if_pos c1, if_pos c1, if_pos rfl]
  rw [if_neg c1, if_neg c1]
  by_cases c2 : s 0 < n
  · rw [if_pos c2, if_pos c2, if_pos rfl]
  rw [if_neg c2, if_neg c2, if_neg (c := (1 : Int32) = 0) (by decide)]
  by_cases c3 : k < 0
  · rw [if_pos c3, if_pos c3, if_pos rfl]
  rw [if_neg c3, if_neg c3]
  have c1' : ¬ n.toInt < 1 := fun q => c1 (Int32.lt_iff_toInt_lt.mpr (by omega))
  have c2' : ¬ (s 0).toInt < n.toInt := fun q => c2 (Int32.lt_iff_toInt_lt.mpr q)
  have es := sx_subI n 1 (by show (-2147483648 : Int) ≤ _; omega) (by show _ ≤ (2147483647 : Int); omega)
  by_cases c4 : n ≤ k
  · have c5 : n - 1 < k := Int32.lt_iff_toInt_lt.mpr (by have := Int32.le_iff_toInt_le.mp c4; omega)
    rw [if_pos c4, if_pos c5, if_pos rfl]
  · have c5 : ¬ n - 1 < k := fun q => c4 (Int32.le_iff_toInt_le.mpr (by have := Int32.lt_iff_toInt_lt.mp q; omega))
    rw [if_neg c4, if_neg c5, if_neg (c := (1 : Int32) = 0) (by decide)]
theorem cu_eq {m : Nat → Nat → Int32} {s : Nat → Int32} (h : pl_R m 4 s) (b : pl_B s) (n d : Int32) : ax_f_cuX m s n d = ax_f_cuM s n d := by
  have h7 : m 4 7 = s 0 := pl_w h
  have e1 : ax_f_isIn n 1 (s 0) = if n < 1 then 0 else if s 0 < n then 0 else 1 := by rw [ax_f_isIn]
  rw [ax_f_cuX, ax_f_cuM, h7, isp_eq d, e1]
  by_cases c1 : n < 1
  · rw [if_pos c1, if_pos c1, if_pos rfl]
  rw [if_neg c1, if_neg c1]
  by_cases c2 : s 0 < n
  · rw [if_pos c2, if_pos c2, if_pos rfl]
  rw [if_neg c2, if_neg c2, if_neg (c := (1 : Int32) = 0) (by decide)]
end AXX
