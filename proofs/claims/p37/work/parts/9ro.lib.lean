/-! exact answers, further (rows written by a program) -/
theorem rd_d_X12_octet_0 : decode tX12_octet.1.2.1 0 = .ok (.aload_n 0, 1) := by decide +kernel
theorem rd_d_X12_octet_1 : decode tX12_octet.1.2.1 1 = .ok (.getfield 14, 3) := by decide +kernel
theorem rd_k_X12_octet_1 : ex_lk ex_mt tX12_octet 1 (.getfield 14) [12, 1, 2, 458768] = true := by decide +kernel
theorem rd_d_X12_octet_4 : decode tX12_octet.1.2.1 4 = .ok (.iload_n 1, 1) := by decide +kernel
theorem rd_d_X12_octet_5 : decode tX12_octet.1.2.1 5 = .ok (.baload, 1) := by decide +kernel
theorem rd_d_X12_octet_6 : decode tX12_octet.1.2.1 6 = .ok (.sipush 255, 3) := by decide +kernel
theorem rd_d_X12_octet_9 : decode tX12_octet.1.2.1 9 = .ok (.iand, 1) := by decide +kernel
theorem rd_d_X12_octet_10 : decode tX12_octet.1.2.1 10 = .ok (.ireturn, 1) := by decide +kernel
theorem rd_d_X12_stood_0 : decode tX12_stood.1.2.1 0 = .ok (.aload_n 0, 1) := by decide +kernel
theorem rd_d_X12_stood_1 : decode tX12_stood.1.2.1 1 = .ok (.iconst 0, 1) := by decide +kernel
theorem rd_d_X12_stood_2 : decode tX12_stood.1.2.1 2 = .ok (.putfield 1, 3) := by decide +kernel
theorem rd_k_X12_stood_2 : ex_lk ex_mt tX12_stood 2 (.putfield 1) [12, 0, 0, 458767] = true := by decide +kernel
theorem rd_d_X12_stood_5 : decode tX12_stood.1.2.1 5 = .ok (.aload_n 0, 1) := by decide +kernel
theorem rd_d_X12_stood_6 : decode tX12_stood.1.2.1 6 = .ok (.sipush 940, 3) := by decide +kernel
theorem rd_d_X12_stood_9 : decode tX12_stood.1.2.1 9 = .ok (.invokevirtual 185, 3) := by decide +kernel
theorem rd_k_X12_stood_9 : ex_lk ex_mt tX12_stood 9 (.invokevirtual 185) [0, 175, 458914] = true := by decide +kernel
theorem rd_d_X12_stood_12 : decode tX12_stood.1.2.1 12 = .ok (.aload_n 0, 1) := by decide +kernel
theorem rd_d_X12_stood_13 : decode tX12_stood.1.2.1 13 = .ok (.getfield 18, 3) := by decide +kernel
theorem rd_k_X12_stood_13 : ex_lk ex_mt tX12_stood 13 (.getfield 18) [12, 3, 0, 458770] = true := by decide +kernel
theorem rd_d_X12_stood_16 : decode tX12_stood.1.2.1 16 = .ok (.iconst 2, 1) := by decide +kernel
theorem rd_d_X12_stood_17 : decode tX12_stood.1.2.1 17 = .ok (.if_icmp .eq 5, 3) := by decide +kernel
theorem rd_d_X12_stood_20 : decode tX12_stood.1.2.1 20 = .ok (.iconst (-1), 1) := by decide +kernel
theorem rd_d_X12_stood_21 : decode tX12_stood.1.2.1 21 = .ok (.ireturn, 1) := by decide +kernel
theorem rd_d_X12_stood_22 : decode tX12_stood.1.2.1 22 = .ok (.aload_n 0, 1) := by decide +kernel
theorem rd_d_X12_stood_23 : decode tX12_stood.1.2.1 23 = .ok (.invokevirtual 326, 3) := by decide +kernel
theorem rd_k_X12_stood_23 : ex_lk ex_mt tX12_stood 23 (.invokevirtual 326) [0, 80, 524486] = true := by decide +kernel
theorem rd_d_X12_stood_26 : decode tX12_stood.1.2.1 26 = .ok (.iconst 0, 1) := by decide +kernel
theorem rd_d_X12_stood_27 : decode tX12_stood.1.2.1 27 = .ok (.istore_n 1, 1) := by decide +kernel
theorem rd_d_X12_stood_28 : decode tX12_stood.1.2.1 28 = .ok (.iconst 0, 1) := by decide +kernel
theorem rd_d_X12_stood_29 : decode tX12_stood.1.2.1 29 = .ok (.istore_n 2, 1) := by decide +kernel
theorem rd_d_X12_stood_30 : decode tX12_stood.1.2.1 30 = .ok (.iload_n 2, 1) := by decide +kernel
theorem rd_d_X12_stood_31 : decode tX12_stood.1.2.1 31 = .ok (.aload_n 0, 1) := by decide +kernel
theorem rd_d_X12_stood_32 : decode tX12_stood.1.2.1 32 = .ok (.invokevirtual 205, 3) := by decide +kernel
theorem rd_k_X12_stood_32 : ex_lk ex_mt tX12_stood 32 (.invokevirtual 205) [0, 171, 524299] = true := by decide +kernel
theorem rd_d_X12_stood_35 : decode tX12_stood.1.2.1 35 = .ok (.if_icmp .ge 46, 3) := by decide +kernel
theorem rd_d_X12_stood_38 : decode tX12_stood.1.2.1 38 = .ok (.iload_n 1, 1) := by decide +kernel
theorem rd_d_X12_stood_39 : decode tX12_stood.1.2.1 39 = .ok (.aload_n 0, 1) := by decide +kernel
theorem rd_d_X12_stood_40 : decode tX12_stood.1.2.1 40 = .ok (.aload_n 0, 1) := by decide +kernel
theorem rd_d_X12_stood_41 : decode tX12_stood.1.2.1 41 = .ok (.iload_n 2, 1) := by decide +kernel
theorem rd_d_X12_stood_42 : decode tX12_stood.1.2.1 42 = .ok (.invokevirtual 208, 3) := by decide +kernel
theorem rd_k_X12_stood_42 : ex_lk ex_mt tX12_stood 42 (.invokevirtual 208) [0, 163, 524306] = true := by decide +kernel
theorem rd_d_X12_stood_45 : decode tX12_stood.1.2.1 45 = .ok (.invokevirtual 329, 3) := by decide +kernel
theorem rd_k_X12_stood_45 : ex_lk ex_mt tX12_stood 45 (.invokevirtual 329) [0, 151, 524490] = true := by decide +kernel
theorem rd_d_X12_stood_48 : decode tX12_stood.1.2.1 48 = .ok (.sipush 256, 3) := by decide +kernel
theorem rd_d_X12_stood_51 : decode tX12_stood.1.2.1 51 = .ok (.aload_n 0, 1) := by decide +kernel
theorem rd_d_X12_stood_52 : decode tX12_stood.1.2.1 52 = .ok (.iconst 0, 1) := by decide +kernel
theorem rd_d_X12_stood_53 : decode tX12_stood.1.2.1 53 = .ok (.invokevirtual 344, 3) := by decide +kernel
theorem rd_k_X12_stood_53 : ex_lk ex_mt tX12_stood 53 (.invokevirtual 344) [0, 144, 589858] = true := by decide +kernel
theorem rd_d_X12_stood_56 : decode tX12_stood.1.2.1 56 = .ok (.imul, 1) := by decide +kernel
theorem rd_d_X12_stood_57 : decode tX12_stood.1.2.1 57 = .ok (.aload_n 0, 1) := by decide +kernel
theorem rd_d_X12_stood_58 : decode tX12_stood.1.2.1 58 = .ok (.iconst 1, 1) := by decide +kernel
theorem rd_d_X12_stood_59 : decode tX12_stood.1.2.1 59 = .ok (.invokevirtual 344, 3) := by decide +kernel
theorem rd_k_X12_stood_59 : ex_lk ex_mt tX12_stood 59 (.invokevirtual 344) [0, 144, 589858] = true := by decide +kernel
theorem rd_d_X12_stood_62 : decode tX12_stood.1.2.1 62 = .ok (.iadd, 1) := by decide +kernel
theorem rd_d_X12_stood_63 : decode tX12_stood.1.2.1 63 = .ok (.if_icmp .ne 9, 3) := by decide +kernel
theorem rd_d_X12_stood_66 : decode tX12_stood.1.2.1 66 = .ok (.iconst 1, 1) := by decide +kernel
theorem rd_d_X12_stood_67 : decode tX12_stood.1.2.1 67 = .ok (.iload_n 2, 1) := by decide +kernel
theorem rd_d_X12_stood_68 : decode tX12_stood.1.2.1 68 = .ok (.ishl, 1) := by decide +kernel
theorem rd_d_X12_stood_69 : decode tX12_stood.1.2.1 69 = .ok (.goto 4, 3) := by decide +kernel
theorem rd_d_X12_stood_72 : decode tX12_stood.1.2.1 72 = .ok (.iconst 0, 1) := by decide +kernel
theorem rd_d_X12_stood_73 : decode tX12_stood.1.2.1 73 = .ok (.ior, 1) := by decide +kernel
theorem rd_d_X12_stood_74 : decode tX12_stood.1.2.1 74 = .ok (.istore_n 1, 1) := by decide +kernel
theorem rd_d_X12_stood_75 : decode tX12_stood.1.2.1 75 = .ok (.iinc 2 1, 3) := by decide +kernel
theorem rd_d_X12_stood_78 : decode tX12_stood.1.2.1 78 = .ok (.goto (-48), 3) := by decide +kernel
theorem rd_d_X12_stood_81 : decode tX12_stood.1.2.1 81 = .ok (.iload_n 1, 1) := by decide +kernel
theorem rd_d_X12_stood_82 : decode tX12_stood.1.2.1 82 = .ok (.ireturn, 1) := by decide +kernel
theorem rd_d_X12_taken_0 : decode tX12_taken.1.2.1 0 = .ok (.aload_n 0, 1) := by decide +kernel
theorem rd_d_X12_taken_1 : decode tX12_taken.1.2.1 1 = .ok (.aload_n 0, 1) := by decide +kernel
theorem rd_d_X12_taken_2 : decode tX12_taken.1.2.1 2 = .ok (.getfield 7, 3) := by decide +kernel
theorem rd_k_X12_taken_2 : ex_lk ex_mt tX12_taken 2 (.getfield 7) [12, 2, 0, 458769] = true := by decide +kernel
theorem rd_d_X12_taken_5 : decode tX12_taken.1.2.1 5 = .ok (.putfield 18, 3) := by decide +kernel
theorem rd_k_X12_taken_5 : ex_lk ex_mt tX12_taken 5 (.putfield 18) [12, 3, 0, 458770] = true := by decide +kernel
theorem rd_d_X12_taken_8 : decode tX12_taken.1.2.1 8 = .ok (.aload_n 0, 1) := by decide +kernel
theorem rd_d_X12_taken_9 : decode tX12_taken.1.2.1 9 = .ok (.iconst 0, 1) := by decide +kernel
theorem rd_d_X12_taken_10 : decode tX12_taken.1.2.1 10 = .ok (.putfield 7, 3) := by decide +kernel
theorem rd_k_X12_taken_10 : ex_lk ex_mt tX12_taken 10 (.putfield 7) [12, 2, 0, 458769] = true := by decide +kernel
theorem rd_d_X12_taken_13 : decode tX12_taken.1.2.1 13 = .ok (.aload_n 0, 1) := by decide +kernel
theorem rd_d_X12_taken_14 : decode tX12_taken.1.2.1 14 = .ok (.iconst 0, 1) := by decide +kernel
theorem rd_d_X12_taken_15 : decode tX12_taken.1.2.1 15 = .ok (.putfield 21, 3) := by decide +kernel
theorem rd_k_X12_taken_15 : ex_lk ex_mt tX12_taken 15 (.putfield 21) [12, 4, 0, 458771] = true := by decide +kernel
theorem rd_d_X12_taken_18 : decode tX12_taken.1.2.1 18 = .ok (.aload_n 0, 1) := by decide +kernel
theorem rd_d_X12_taken_19 : decode tX12_taken.1.2.1 19 = .ok (.iload_n 1, 1) := by decide +kernel
theorem rd_d_X12_taken_20 : decode tX12_taken.1.2.1 20 = .ok (.putfield 24, 3) := by decide +kernel
theorem rd_k_X12_taken_20 : ex_lk ex_mt tX12_taken 20 (.putfield 24) [12, 5, 0, 458772] = true := by decide +kernel
theorem rd_d_X12_taken_23 : decode tX12_taken.1.2.1 23 = .ok (.return_, 1) := by decide +kernel
section AXX
variable {g : am_C} {L : Nat} {xs : Nat → Int32}
def ax_f_oct (m : Nat → Nat → Int32) (k : Int32) : Int32 := (m 119 k.toInt.toNat) &&& 255
theorem ax_oct (G : sx_G0 g L xs z9 hd_C ex_mt) {σ : am_S} (hS : ax_S σ) (k : Int32) (h0 : 0 ≤ k.toInt) (h1 : k.toInt < 940) : am_K g 1 tX12_octet.1 0 0 0 (lv_args 0 [.ref 118, .int k]) [] σ (ax_R (ax_f_oct σ.2.1 k) σ) := by
  refine kr_aload_n 0 rd_d_X12_octet_0 rfl ?_
  refine kr_getf G.1 (rd_FL rd_k_X12_octet_1).1 rd_d_X12_octet_1 (hS.1 118 (.inl 12) rfl) (v := .ref 119) (by unfold am_fa; rw [(rd_FL rd_k_X12_octet_1).2]; exact hS.2 118 1 119 rfl) ?_
  refine kr_iload_n 1 rd_d_X12_octet_4 rfl ?_
  refine kr_bald G.1 (n := 940) rd_d_X12_octet_5 (hS.1 119 (.inr (.byte, 940)) rfl) (hd_in (n := k.toInt.toNat) (by omega) (by omega)) ?_
  rw [hd_clamp (n := k.toInt.toNat) (by omega)]
  refine kr_sipush (v := 255) rd_d_X12_octet_6 (by decide) ?_
  refine kr_iand rd_d_X12_octet_9 ?_
  exact kr_ireturn rd_d_X12_octet_10 (ty := .int) rfl rfl ⟨rfl, rfl⟩
theorem ax_soLM (G : sx_G0 g L xs z9 hd_C ex_mt) {s : Nat → Int32} (b : pn_B s) (b6 : pl_B6 s) {σ : am_S} (hS : ax_S σ) (hs : σ.2.1 120 = s) (hL : pb_M (pz_best s) σ.2.1) : ∀ (f j : Nat) (z k : Int32), k.toInt = (j : Int) → j + f = pz_sN s → z = pz_st s (256 * (σ.2.1 119 0 &&& 255) + (σ.2.1 119 1 &&& 255)) j → am_K g 11 tX12_stood.1 0 0 30 [(2, .int k), (1, .int z), (0, .ref 118)] [] σ (fun r σ' => r = some (some (.int (pz_st s (256 * (σ.2.1 119 0 &&& 255) + (σ.2.1 119 1 &&& 255)) (pz_sN s)))) ∧ σ' = σ) := by
  have h6 := ax_many6 (s := s) b.1.2
  have hN : (ax_f_many s).toInt = (pz_sN s : Int) := by unfold pz_sN; omega
  have hok := pz_best_ok b b6
  have oct0 : ax_f_oct σ.2.1 0 = σ.2.1 119 0 &&& 255 := rfl
  have oct1 : ax_f_oct σ.2.1 1 = σ.2.1 119 1 &&& 255 := rfl
  intro f
  induction f with
  | zero =>
    intro j z k ek hj ez
    refine kr_iload_n 0 rd_d_X12_stood_30 rfl ?_
    refine kr_aload_n 2 rd_d_X12_stood_31 rfl ?_
    refine rd_call G (T2 := tX12_standMany) rfl rd_d_X12_stood_32 rd_k_X12_stood_32 rfl (hS.1 118 (.inl 12) rfl) (as := []) (st := [.int k]) rfl (Nat.le_of_ble_eq_true rfl) rfl (Nat.le_of_ble_eq_true rfl) (d1 := 2) (by decide) (fun _ h => by cases h.1) (ax_many G hS ) ?_
    intro v1 σ1 ⟨hv1, hs1⟩
    cases hv1
    rw [hs1]
    refine kr_icmp_ge (tgt := 81) rd_d_X12_stood_35 rfl (fun h2 => ?_) (fun h2 => ?_)
    · refine kr_iload_n 1 rd_d_X12_stood_81 rfl ?_
      exact kr_ireturn rd_d_X12_stood_82 (ty := .int) rfl rfl ⟨by rw [ez, show j = pz_sN s by omega], rfl⟩
    · rw [hs] at h2
      exact absurd (Int32.le_iff_toInt_le.mpr (by omega)) h2
  | succ f ih =>
    intro j z k ek hj ez
    have ekj : k = Int32.ofNat j := ch_ofN ek
    have ekn : k.toInt.toNat = j := by omega
    have hst : pz_st s (256 * (σ.2.1 119 0 &&& 255) + (σ.2.1 119 1 &&& 255)) (j + 1) = if ((pz_pc s (pz_best s) (ax_f_secM s k k.toInt.toNat).toInt (pz_best s).length : Nat) : Int) = (256 * (σ.2.1 119 0 &&& 255) + (σ.2.1 119 1 &&& 255)).toInt then pz_st s (256 * (σ.2.1 119 0 &&& 255) + (σ.2.1 119 1 &&& 255)) j ||| (1 <<< (k &&& 31)) else pz_st s (256 * (σ.2.1 119 0 &&& 255) + (σ.2.1 119 1 &&& 255)) j := by rw [ekn, ekj]; rfl
    refine kr_iload_n 0 rd_d_X12_stood_30 rfl ?_
    refine kr_aload_n 2 rd_d_X12_stood_31 rfl ?_
    refine rd_call G (T2 := tX12_standMany) rfl rd_d_X12_stood_32 rd_k_X12_stood_32 rfl (hS.1 118 (.inl 12) rfl) (as := []) (st := [.int k]) rfl (Nat.le_of_ble_eq_true rfl) rfl (Nat.le_of_ble_eq_true rfl) (d1 := 2) (by decide) (fun _ h => by cases h.1) (ax_many G hS ) ?_
    intro v21 σ21 ⟨hv21, hs21⟩
    cases hv21
    rw [hs21]
    refine kr_icmp_ge (tgt := 81) rd_d_X12_stood_35 rfl (fun h22 => ?_) (fun h22 => ?_)
    · refine kr_iload_n 1 rd_d_X12_stood_81 rfl ?_
      rw [hs] at h22
      have := Int32.le_iff_toInt_le.mp h22
      omega
    · refine kr_iload_n 1 rd_d_X12_stood_38 rfl ?_
      refine kr_aload_n 2 rd_d_X12_stood_39 rfl ?_
      refine kr_aload_n 2 rd_d_X12_stood_40 rfl ?_
      refine kr_iload_n 0 rd_d_X12_stood_41 rfl ?_
      refine rd_call G (T2 := tX12_secondsOf) rfl rd_d_X12_stood_42 rd_k_X12_stood_42 rfl (hS.1 118 (.inl 12) rfl) (as := [.int k]) (st := [.ref 118, .int z]) rfl (Nat.le_of_ble_eq_true rfl) rfl (Nat.le_of_ble_eq_true rfl) (d1 := 1) (by decide) (fun _ h => by cases h.1) (ax_secM G hS k (k.toInt.toNat) (by omega) (by omega)) ?_
      intro v41 σ41 ⟨hv41, hs41⟩
      cases hv41
      rw [hs41]
      refine rd_call G (T2 := tX12_penceBy) rfl rd_d_X12_stood_45 rd_k_X12_stood_45 rfl (hS.1 118 (.inl 12) rfl) (as := [.int (ax_f_secM (σ.2.1 120) k (k.toInt.toNat))]) (st := [.int z]) rfl (Nat.le_of_ble_eq_true rfl) rfl (Nat.le_of_ble_eq_true rfl) (d1 := 2) (by decide) (fun _ h => by obtain ⟨⟨y, h, -⟩, -⟩ := h; cases h) (ax_pyM G b hok hS hs hL (ax_f_secM (σ.2.1 120) k (k.toInt.toNat))) ?_
      intro v2 σ2 ⟨⟨y, hv2, hy⟩, hs2⟩
      cases hv2
      rw [hs2]
      refine kr_sipush (v := 256) rd_d_X12_stood_48 (by decide) ?_
      refine kr_aload_n 2 rd_d_X12_stood_51 rfl ?_
      refine kr_iconst (v := 0) rd_d_X12_stood_52 (by decide) ?_
      refine rd_call G (T2 := tX12_octet) rfl rd_d_X12_stood_53 rd_k_X12_stood_53 rfl (hS.1 118 (.inl 12) rfl) (as := [.int 0]) (st := [.int 256, .int y, .int z]) rfl (Nat.le_of_ble_eq_true rfl) rfl (Nat.le_of_ble_eq_true rfl) (d1 := 1) (by decide) (fun _ h => by cases h.1) (ax_oct G hS 0 (by decide) (by decide)) ?_
      intro v42 σ42 ⟨hv42, hs42⟩
      cases hv42
      rw [hs42]
      refine kr_imul rd_d_X12_stood_56 ?_
      refine kr_aload_n 2 rd_d_X12_stood_57 rfl ?_
      refine kr_iconst (v := 1) rd_d_X12_stood_58 (by decide) ?_
      refine rd_call G (T2 := tX12_octet) rfl rd_d_X12_stood_59 rd_k_X12_stood_59 rfl (hS.1 118 (.inl 12) rfl) (as := [.int 1]) (st := [.int (256 * (ax_f_oct σ.2.1 0)), .int y, .int z]) rfl (Nat.le_of_ble_eq_true rfl) rfl (Nat.le_of_ble_eq_true rfl) (d1 := 1) (by decide) (fun _ h => by cases h.1) (ax_oct G hS 1 (by decide) (by decide)) ?_
      intro v43 σ43 ⟨hv43, hs43⟩
      cases hv43
      rw [hs43]
      refine kr_iadd rd_d_X12_stood_62 ?_
      refine kr_icmp_ne (tgt := 72) rd_d_X12_stood_63 rfl (fun h44 => ?_) (fun h44 => ?_)
      · refine kr_iconst (v := 0) rd_d_X12_stood_72 (by decide) ?_
        refine kr_ior rd_d_X12_stood_73 ?_
        refine kr_istore_n (lv' := [(1, .int (z ||| 0)), (2, .int k), (0, .ref 118)]) rd_d_X12_stood_74 (by decide) rfl ?_
        refine kr_iinc (v := k + 1) (lv' := [(2, .int (k + 1)), (1, .int (z ||| 0)), (0, .ref 118)]) 1 rd_d_X12_stood_75 rfl rfl (by decide) rfl ?_
        refine kr_goto (tgt := 30) rd_d_X12_stood_78 rfl ?_
        refine kr_sub (lv' := [(2, .int (k + 1)), (1, .int (z ||| 0)), (0, .ref 118)]) (by simp) ?_
        refine ih (j + 1) (z ||| 0) (k + 1) (ax_inc ek (by omega)) (by omega) ?_
        rw [oct0, oct1] at h44
        rw [hs] at hy
        rw [hst, if_neg (fun q => h44 (Int32.toInt_inj.mp (hy.trans q))), ez, Int32.or_zero]
      · refine kr_iconst (v := 1) rd_d_X12_stood_66 (by decide) ?_
        refine kr_iload_n 0 rd_d_X12_stood_67 rfl ?_
        refine kr_ishl rd_d_X12_stood_68 ?_
        refine kr_goto (tgt := 73) rd_d_X12_stood_69 rfl ?_
        refine kr_ior rd_d_X12_stood_73 ?_
        refine kr_istore_n (lv' := [(1, .int (z ||| (1 <<< (k &&& 31)))), (2, .int k), (0, .ref 118)]) rd_d_X12_stood_74 (by decide) rfl ?_
        refine kr_iinc (v := k + 1) (lv' := [(2, .int (k + 1)), (1, .int (z ||| (1 <<< (k &&& 31)))), (0, .ref 118)]) 1 rd_d_X12_stood_75 rfl rfl (by decide) rfl ?_
        refine kr_goto (tgt := 30) rd_d_X12_stood_78 rfl ?_
        refine kr_sub (lv' := [(2, .int (k + 1)), (1, .int (z ||| (1 <<< (k &&& 31)))), (0, .ref 118)]) (by simp) ?_
        refine ih (j + 1) (z ||| (1 <<< (k &&& 31))) (k + 1) (ax_inc ek (by omega)) (by omega) ?_
        rw [oct0, oct1] at h44
        rw [hs] at hy
        rw [hst, if_pos (by rw [← hy, h44]), ez]
theorem ax_tkn (G : sx_G0 g L xs z9 hd_C ex_mt) {σ : am_S} (hS : ax_S σ) (a : Int32) : am_K g 1 tX12_taken.1 0 0 0 (lv_args 0 [.ref 118, .int a]) [] σ (fun r σ' => r = some none ∧ ax_S σ' ∧ (∀ x y, ¬ (x = 118 ∧ 2 ≤ y ∧ y ≤ 5) → σ'.2.1 x y = σ.2.1 x y) ∧ σ'.2.1 118 3 = σ.2.1 118 2 ∧ σ'.2.1 118 2 = 0) := by
  refine kr_aload_n 0 rd_d_X12_taken_0 rfl ?_
  refine kr_aload_n 0 rd_d_X12_taken_1 rfl ?_
  refine kr_getf G.1 (rd_FL rd_k_X12_taken_2).1 rd_d_X12_taken_2 (hS.1 118 (.inl 12) rfl) (v := .int (σ.2.1 118 2)) (by unfold am_fa; rw [(rd_FL rd_k_X12_taken_2).2]; rfl) ?_
  refine ax_putW G hS rd_d_X12_taken_5 rd_k_X12_taken_5 (hS.1 118 (.inl 12) rfl) ?_
  intro τ1 hT1 hw1 hf1
  have hsτ1 : τ1.2.1 120 = σ.2.1 120 := (ax_120F hf1 (by decide))
  have hqτ1 : ax_pl τ1.2.1 = ax_pl σ.2.1 := (ax_plF hf1 (by decide))
  refine kr_aload_n 0 rd_d_X12_taken_8 rfl ?_
  refine kr_iconst (v := 0) rd_d_X12_taken_9 (by decide) ?_
  refine ax_putW G hT1 rd_d_X12_taken_10 rd_k_X12_taken_10 (hT1.1 118 (.inl 12) rfl) ?_
  intro τ2 hT2 hw2 hf2
  have hsτ2 : τ2.2.1 120 = σ.2.1 120 := (ax_120F hf2 (by decide)).trans hsτ1
  have hqτ2 : ax_pl τ2.2.1 = ax_pl σ.2.1 := (ax_plF hf2 (by decide)).trans hqτ1
  refine kr_aload_n 0 rd_d_X12_taken_13 rfl ?_
  refine kr_iconst (v := 0) rd_d_X12_taken_14 (by decide) ?_
  refine ax_putW G hT2 rd_d_X12_taken_15 rd_k_X12_taken_15 (hT2.1 118 (.inl 12) rfl) ?_
  intro τ3 hT3 hw3 hf3
  have hsτ3 : τ3.2.1 120 = σ.2.1 120 := (ax_120F hf3 (by decide)).trans hsτ2
  have hqτ3 : ax_pl τ3.2.1 = ax_pl σ.2.1 := (ax_plF hf3 (by decide)).trans hqτ2
  refine kr_aload_n 0 rd_d_X12_taken_18 rfl ?_
  refine kr_iload_n 1 rd_d_X12_taken_19 rfl ?_
  refine ax_putW G hT3 rd_d_X12_taken_20 rd_k_X12_taken_20 (hT3.1 118 (.inl 12) rfl) ?_
  intro τ4 hT4 hw4 hf4
  have hsτ4 : τ4.2.1 120 = σ.2.1 120 := (ax_120F hf4 (by decide)).trans hsτ3
  have hqτ4 : ax_pl τ4.2.1 = ax_pl σ.2.1 := (ax_plF hf4 (by decide)).trans hqτ3
  refine kr_return rd_d_X12_taken_23 rfl ⟨rfl, hT4, fun x y q => ?_, (hf4 118 3 (fun q => absurd q.2 (by decide))).trans ((hf3 118 3 (fun q => absurd q.2 (by decide))).trans ((hf2 118 3 (fun q => absurd q.2 (by decide))).trans (hw1))), (hf4 118 2 (fun q => absurd q.2 (by decide))).trans ((hf3 118 2 (fun q => absurd q.2 (by decide))).trans (hw2))⟩
  rw [hf4 x y (fun z => q (by omega)), hf3 x y (fun z => q (by omega)), hf2 x y (fun z => q (by omega)), hf1 x y (fun z => q (by omega))]
theorem ax_soM (G : sx_G0 g L xs z9 hd_C ex_mt) {s : Nat → Int32} (b : pn_B s) (b6 : pl_B6 s) {σ : am_S} (hS : ax_S σ) (hs : σ.2.1 120 = s) : am_K g 11 tX12_stood.1 0 0 0 (lv_args 0 [.ref 118]) [] σ (fun r σ' => r = some (some (.int (pz_soA s (σ.2.1 118 2) (σ.2.1 119 0) (σ.2.1 119 1)))) ∧ ax_S σ') := by
  refine ax_thr G hS rd_d_X12_stood_0 rd_d_X12_stood_1 rd_d_X12_stood_2 rd_k_X12_stood_2 rfl ?_
  intro τ hT hm hm8
  have hsT : τ.2.1 120 = s := (funext fun q => hm 120 q (by decide)).trans hs
  have e2 : τ.2.1 118 2 = σ.2.1 118 2 := hm8 2 (by decide)
  refine kr_aload_n 0 rd_d_X12_stood_5 rfl ?_
  refine kr_sipush (v := 940) rd_d_X12_stood_6 (by decide) ?_
  refine rd_call G (T2 := tX12_taken) rfl rd_d_X12_stood_9 rd_k_X12_stood_9 rfl (hT.1 118 (.inl 12) rfl) (as := [.int 940]) (st := []) rfl (Nat.le_of_ble_eq_true rfl) rfl (Nat.le_of_ble_eq_true rfl) (d1 := 1) (by decide) (fun _ h => by cases h.1) (ax_tkn G hT 940) ?_
  intro v1 σ1 ⟨hv1, hS1, hf1, hz1, hl1⟩
  cases hv1
  have hs1 : σ1.2.1 120 = s := (funext fun q => hf1 120 q (by omega)).trans hsT
  refine kr_aload_n 0 rd_d_X12_stood_12 rfl ?_
  refine kr_getf G.1 (rd_FL rd_k_X12_stood_13).1 rd_d_X12_stood_13 (hS1.1 118 (.inl 12) rfl) (v := .int (σ1.2.1 118 3)) (by unfold am_fa; rw [(rd_FL rd_k_X12_stood_13).2]; rfl) ?_
  refine kr_iconst (v := 2) rd_d_X12_stood_16 (by decide) ?_
  refine kr_icmp_eq (tgt := 22) rd_d_X12_stood_17 rfl (fun h1 => ?_) (fun h1 => ?_)
  · refine kr_aload_n 0 rd_d_X12_stood_22 rfl ?_
    refine rd_call G (T2 := tX12_bests) rfl rd_d_X12_stood_23 rd_k_X12_stood_23 rfl (hS1.1 118 (.inl 12) rfl) (as := []) (st := []) rfl (Nat.le_of_ble_eq_true rfl) rfl (Nat.le_of_ble_eq_true rfl) (d1 := 10) (by decide) (fun _ h => by cases h.1) (ax_mb G b b6 hS1 hs1) ?_
    intro v2 σ2 ⟨hv2, hS2, hf2, hM2, hau⟩
    cases hv2
    have hs2 : σ2.2.1 120 = s := (funext fun q => hf2 120 q (by decide) (by decide) (by decide) (by decide) (fun z => absurd z.1 (by decide))).trans hs1
    have t2 : ∀ q, σ2.2.1 119 q = σ.2.1 119 q := fun q => ((hf2 119 q (by decide) (by decide) (by decide) (by decide) (fun z => absurd z.1 (by decide))).trans (hf1 119 q (by omega))).trans (hm 119 q (by decide))
    refine kr_iconst (v := 0) rd_d_X12_stood_26 (by decide) ?_
    refine kr_istore_n (lv' := [(1, .int 0), (0, .ref 118)]) rd_d_X12_stood_27 (by decide) rfl ?_
    refine kr_iconst (v := 0) rd_d_X12_stood_28 (by decide) ?_
    refine kr_istore_n (lv' := [(2, .int 0), (1, .int 0), (0, .ref 118)]) rd_d_X12_stood_29 (by decide) rfl ?_
    refine kr_mono ?_ (ax_soLM G b b6 hS2 hs2 hM2 (pz_sN s) 0 0 0 rfl (by omega) rfl)
    intro r σ' ⟨hr, e⟩
    subst e
    rw [t2 0, t2 1] at hr
    rw [pz_soA, if_pos (by rw [← e2, ← hz1]; exact h1)]
    exact ⟨hr, hS2⟩
  · refine kr_iconst (v := (-1)) rd_d_X12_stood_20 (by decide) ?_
    exact kr_ireturn rd_d_X12_stood_21 (ty := .int) rfl rfl ⟨by rw [pz_soA, if_neg (fun q => h1 (by rw [hz1, e2]; exact q))], hS1⟩
end AXX
