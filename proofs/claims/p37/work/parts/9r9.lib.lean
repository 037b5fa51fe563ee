/-! exact answers, further (rows written by a program) -/
theorem rd_d_X11_sellers_0 : decode tX11_sellers.1.2.1 0 = .ok (.aload_n 0, 1) := by decide +kernel
theorem rd_d_X11_sellers_1 : decode tX11_sellers.1.2.1 1 = .ok (.getfield 28, 3) := by decide +kernel
theorem rd_k_X11_sellers_1 : ex_lk ex_mt tX11_sellers 1 (.getfield 28) [11, 2, 2, 131261] = true := by decide +kernel
theorem rd_d_X11_sellers_4 : decode tX11_sellers.1.2.1 4 = .ok (.getfield 291, 3) := by decide +kernel
theorem rd_k_X11_sellers_4 : ex_lk ex_mt tX11_sellers 4 (.getfield 291) [9, 7, 0, 65659] = true := by decide +kernel
theorem rd_d_X11_sellers_7 : decode tX11_sellers.1.2.1 7 = .ok (.ifCond .ne 5, 3) := by decide +kernel
theorem rd_d_X11_sellers_10 : decode tX11_sellers.1.2.1 10 = .ok (.iconst (-1), 1) := by decide +kernel
theorem rd_d_X11_sellers_11 : decode tX11_sellers.1.2.1 11 = .ok (.ireturn, 1) := by decide +kernel
theorem rd_d_X11_sellers_12 : decode tX11_sellers.1.2.1 12 = .ok (.aload_n 0, 1) := by decide +kernel
theorem rd_d_X11_sellers_13 : decode tX11_sellers.1.2.1 13 = .ok (.getfield 67, 3) := by decide +kernel
theorem rd_k_X11_sellers_13 : ex_lk ex_mt tX11_sellers 13 (.getfield 67) [11, 9, 2, 131268] = true := by decide +kernel
theorem rd_d_X11_sellers_16 : decode tX11_sellers.1.2.1 16 = .ok (.invokevirtual 321, 3) := by decide +kernel
theorem rd_k_X11_sellers_16 : ex_lk ex_mt tX11_sellers 16 (.invokevirtual 321) [0, 221, 327709] = true := by decide +kernel
theorem rd_d_X11_sellers_19 : decode tX11_sellers.1.2.1 19 = .ok (.iconst 0, 1) := by decide +kernel
theorem rd_d_X11_sellers_20 : decode tX11_sellers.1.2.1 20 = .ok (.istore_n 1, 1) := by decide +kernel
theorem rd_d_X11_sellers_21 : decode tX11_sellers.1.2.1 21 = .ok (.iconst 1, 1) := by decide +kernel
theorem rd_d_X11_sellers_22 : decode tX11_sellers.1.2.1 22 = .ok (.istore_n 2, 1) := by decide +kernel
theorem rd_d_X11_sellers_23 : decode tX11_sellers.1.2.1 23 = .ok (.iload_n 2, 1) := by decide +kernel
theorem rd_d_X11_sellers_24 : decode tX11_sellers.1.2.1 24 = .ok (.aload_n 0, 1) := by decide +kernel
theorem rd_d_X11_sellers_25 : decode tX11_sellers.1.2.1 25 = .ok (.getfield 28, 3) := by decide +kernel
theorem rd_k_X11_sellers_25 : ex_lk ex_mt tX11_sellers 25 (.getfield 28) [11, 2, 2, 131261] = true := by decide +kernel
theorem rd_d_X11_sellers_28 : decode tX11_sellers.1.2.1 28 = .ok (.getfield 291, 3) := by decide +kernel
theorem rd_k_X11_sellers_28 : ex_lk ex_mt tX11_sellers 28 (.getfield 291) [9, 7, 0, 65659] = true := by decide +kernel
theorem rd_d_X11_sellers_31 : decode tX11_sellers.1.2.1 31 = .ok (.if_icmp .gt 22, 3) := by decide +kernel
theorem rd_d_X11_sellers_34 : decode tX11_sellers.1.2.1 34 = .ok (.aload_n 0, 1) := by decide +kernel
theorem rd_d_X11_sellers_35 : decode tX11_sellers.1.2.1 35 = .ok (.getfield 67, 3) := by decide +kernel
theorem rd_k_X11_sellers_35 : ex_lk ex_mt tX11_sellers 35 (.getfield 67) [11, 9, 2, 131268] = true := by decide +kernel
theorem rd_d_X11_sellers_38 : decode tX11_sellers.1.2.1 38 = .ok (.iload_n 2, 1) := by decide +kernel
theorem rd_d_X11_sellers_39 : decode tX11_sellers.1.2.1 39 = .ok (.invokevirtual 324, 3) := by decide +kernel
theorem rd_k_X11_sellers_39 : ex_lk ex_mt tX11_sellers 39 (.invokevirtual 324) [0, 207, 327710] = true := by decide +kernel
theorem rd_d_X11_sellers_42 : decode tX11_sellers.1.2.1 42 = .ok (.ifCond .eq 5, 3) := by decide +kernel
theorem rd_d_X11_sellers_45 : decode tX11_sellers.1.2.1 45 = .ok (.iload_n 2, 1) := by decide +kernel
theorem rd_d_X11_sellers_46 : decode tX11_sellers.1.2.1 46 = .ok (.istore_n 1, 1) := by decide +kernel
theorem rd_d_X11_sellers_47 : decode tX11_sellers.1.2.1 47 = .ok (.iinc 2 1, 3) := by decide +kernel
theorem rd_d_X11_sellers_50 : decode tX11_sellers.1.2.1 50 = .ok (.goto (-27), 3) := by decide +kernel
theorem rd_d_X11_sellers_53 : decode tX11_sellers.1.2.1 53 = .ok (.iload_n 1, 1) := by decide +kernel
theorem rd_d_X11_sellers_54 : decode tX11_sellers.1.2.1 54 = .ok (.ireturn, 1) := by decide +kernel
theorem rd_d_X11_border_0 : decode tX11_border.1.2.1 0 = .ok (.aload_n 0, 1) := by decide +kernel
theorem rd_d_X11_border_1 : decode tX11_border.1.2.1 1 = .ok (.getfield 67, 3) := by decide +kernel
theorem rd_k_X11_border_1 : ex_lk ex_mt tX11_border 1 (.getfield 67) [11, 9, 2, 131268] = true := by decide +kernel
theorem rd_d_X11_border_4 : decode tX11_border.1.2.1 4 = .ok (.invokevirtual 321, 3) := by decide +kernel
theorem rd_k_X11_border_4 : ex_lk ex_mt tX11_border 4 (.invokevirtual 321) [0, 221, 327709] = true := by decide +kernel
theorem rd_d_X11_border_7 : decode tX11_border.1.2.1 7 = .ok (.iconst 0, 1) := by decide +kernel
theorem rd_d_X11_border_8 : decode tX11_border.1.2.1 8 = .ok (.istore_n 1, 1) := by decide +kernel
theorem rd_d_X11_border_9 : decode tX11_border.1.2.1 9 = .ok (.iconst (-1), 1) := by decide +kernel
theorem rd_d_X11_border_10 : decode tX11_border.1.2.1 10 = .ok (.istore_n 2, 1) := by decide +kernel
theorem rd_d_X11_border_11 : decode tX11_border.1.2.1 11 = .ok (.iconst 0, 1) := by decide +kernel
theorem rd_d_X11_border_12 : decode tX11_border.1.2.1 12 = .ok (.istore_n 3, 1) := by decide +kernel
theorem rd_d_X11_border_13 : decode tX11_border.1.2.1 13 = .ok (.iload_n 3, 1) := by decide +kernel
theorem rd_d_X11_border_14 : decode tX11_border.1.2.1 14 = .ok (.aload_n 0, 1) := by decide +kernel
theorem rd_d_X11_border_15 : decode tX11_border.1.2.1 15 = .ok (.getfield 28, 3) := by decide +kernel
theorem rd_k_X11_border_15 : ex_lk ex_mt tX11_border 15 (.getfield 28) [11, 2, 2, 131261] = true := by decide +kernel
theorem rd_d_X11_border_18 : decode tX11_border.1.2.1 18 = .ok (.getfield 291, 3) := by decide +kernel
theorem rd_k_X11_border_18 : ex_lk ex_mt tX11_border 18 (.getfield 291) [9, 7, 0, 65659] = true := by decide +kernel
theorem rd_d_X11_border_21 : decode tX11_border.1.2.1 21 = .ok (.if_icmp .gt 59, 3) := by decide +kernel
theorem rd_d_X11_border_24 : decode tX11_border.1.2.1 24 = .ok (.aload_n 0, 1) := by decide +kernel
theorem rd_d_X11_border_25 : decode tX11_border.1.2.1 25 = .ok (.getfield 67, 3) := by decide +kernel
theorem rd_k_X11_border_25 : ex_lk ex_mt tX11_border 25 (.getfield 67) [11, 9, 2, 131268] = true := by decide +kernel
theorem rd_d_X11_border_28 : decode tX11_border.1.2.1 28 = .ok (.iconst 0, 1) := by decide +kernel
theorem rd_d_X11_border_29 : decode tX11_border.1.2.1 29 = .ok (.iload_n 3, 1) := by decide +kernel
theorem rd_d_X11_border_30 : decode tX11_border.1.2.1 30 = .ok (.iconst 1, 1) := by decide +kernel
theorem rd_d_X11_border_31 : decode tX11_border.1.2.1 31 = .ok (.isub, 1) := by decide +kernel
theorem rd_d_X11_border_32 : decode tX11_border.1.2.1 32 = .ok (.invokevirtual 348, 3) := by decide +kernel
theorem rd_k_X11_border_32 : ex_lk ex_mt tX11_border 32 (.invokevirtual 348) [0, 225, 327771] = true := by decide +kernel
theorem rd_d_X11_border_35 : decode tX11_border.1.2.1 35 = .ok (.aload_n 0, 1) := by decide +kernel
theorem rd_d_X11_border_36 : decode tX11_border.1.2.1 36 = .ok (.getfield 67, 3) := by decide +kernel
theorem rd_k_X11_border_36 : ex_lk ex_mt tX11_border 36 (.getfield 67) [11, 9, 2, 131268] = true := by decide +kernel
theorem rd_d_X11_border_39 : decode tX11_border.1.2.1 39 = .ok (.iload_n 3, 1) := by decide +kernel
theorem rd_d_X11_border_40 : decode tX11_border.1.2.1 40 = .ok (.aload_n 0, 1) := by decide +kernel
theorem rd_d_X11_border_41 : decode tX11_border.1.2.1 41 = .ok (.getfield 28, 3) := by decide +kernel
theorem rd_k_X11_border_41 : ex_lk ex_mt tX11_border 41 (.getfield 28) [11, 2, 2, 131261] = true := by decide +kernel
theorem rd_d_X11_border_44 : decode tX11_border.1.2.1 44 = .ok (.getfield 291, 3) := by decide +kernel
theorem rd_k_X11_border_44 : ex_lk ex_mt tX11_border 44 (.getfield 291) [9, 7, 0, 65659] = true := by decide +kernel
theorem rd_d_X11_border_47 : decode tX11_border.1.2.1 47 = .ok (.iconst 1, 1) := by decide +kernel
theorem rd_d_X11_border_48 : decode tX11_border.1.2.1 48 = .ok (.isub, 1) := by decide +kernel
theorem rd_d_X11_border_49 : decode tX11_border.1.2.1 49 = .ok (.invokevirtual 348, 3) := by decide +kernel
theorem rd_k_X11_border_49 : ex_lk ex_mt tX11_border 49 (.invokevirtual 348) [0, 225, 327771] = true := by decide +kernel
theorem rd_d_X11_border_52 : decode tX11_border.1.2.1 52 = .ok (.isub, 1) := by decide +kernel
theorem rd_d_X11_border_53 : decode tX11_border.1.2.1 53 = .ok (.invokestatic 351, 3) := by decide +kernel
theorem rd_k_X11_border_53 : ex_lk ex_mt tX11_border 53 (.invokestatic 351) [1, 2, 327772, 0] = true := by decide +kernel
theorem rd_d_X11_border_56 : decode tX11_border.1.2.1 56 = .ok (.istore 4, 2) := by decide +kernel
theorem rd_d_X11_border_58 : decode tX11_border.1.2.1 58 = .ok (.iload_n 2, 1) := by decide +kernel
theorem rd_d_X11_border_59 : decode tX11_border.1.2.1 59 = .ok (.iconst (-1), 1) := by decide +kernel
theorem rd_d_X11_border_60 : decode tX11_border.1.2.1 60 = .ok (.if_icmp .eq 9, 3) := by decide +kernel
theorem rd_d_X11_border_63 : decode tX11_border.1.2.1 63 = .ok (.iload 4, 2) := by decide +kernel
theorem rd_d_X11_border_65 : decode tX11_border.1.2.1 65 = .ok (.iload_n 2, 1) := by decide +kernel
theorem rd_d_X11_border_66 : decode tX11_border.1.2.1 66 = .ok (.if_icmp .ge 8, 3) := by decide +kernel
theorem rd_d_X11_border_69 : decode tX11_border.1.2.1 69 = .ok (.iload 4, 2) := by decide +kernel
theorem rd_d_X11_border_71 : decode tX11_border.1.2.1 71 = .ok (.istore_n 2, 1) := by decide +kernel
theorem rd_d_X11_border_72 : decode tX11_border.1.2.1 72 = .ok (.iload_n 3, 1) := by decide +kernel
theorem rd_d_X11_border_73 : decode tX11_border.1.2.1 73 = .ok (.istore_n 1, 1) := by decide +kernel
theorem rd_d_X11_border_74 : decode tX11_border.1.2.1 74 = .ok (.iinc 3 1, 3) := by decide +kernel
theorem rd_d_X11_border_77 : decode tX11_border.1.2.1 77 = .ok (.goto (-64), 3) := by decide +kernel
theorem rd_d_X11_border_80 : decode tX11_border.1.2.1 80 = .ok (.iload_n 1, 1) := by decide +kernel
theorem rd_d_X11_border_81 : decode tX11_border.1.2.1 81 = .ok (.ireturn, 1) := by decide +kernel
section AXX
variable {g : am_C} {L : Nat} {xs : Nat → Int32}
theorem pk_P2 {CH : List Nat → Nat → Nat → Int64 → Prop} {s : Nat → Int32} {σ σ1 σ' : am_S} {H : Nat} (hP : pk_P CH s σ) (hfG : (∀ x y, x ≠ 69 → x ≠ 73 → x ≠ 74 → ¬ (x = 68 ∧ (y = 16 ∨ y = 17)) → σ1.2.1 x y = σ.2.1 x y)) (hlG : σ1.2.2 = σ.2.2) (hn1 : ¬ σ1.2.1 68 17 = 0) (hsm : ¬ σ.2.1 68 17 = 0 → σ1.2.1 = σ.2.1) (hg1 : pg_K s H σ1.2.1) (a2 : (∀ x y, x ≠ 70 → x ≠ 73 → x ≠ 74 → x ≠ 78 → x ≠ 79 → ¬ (x = 68 ∧ y = 15) → σ'.2.1 x y = σ1.2.1 x y)) (a3 : σ'.2.2.1 = σ1.2.2.1) (a4 : pk_r s σ'.2.1) : (∀ x y, x ≠ 69 → x ≠ 70 → x ≠ 73 → x ≠ 74 → x ≠ 78 → x ≠ 79 → ¬ (x = 68 ∧ 15 ≤ y ∧ y ≤ 17) → σ'.2.1 x y = σ.2.1 x y) ∧ σ'.2.2.1 = σ.2.2.1 ∧ pk_P CH s σ' := by
  have el : σ'.2.2.1 = σ.2.2.1 := a3.trans (congrArg Prod.fst hlG)
  refine ⟨fun x y x9 x0 x3 x4 x8 x7 hx => (a2 x y x0 x3 x4 x8 x7 (fun q => hx ⟨q.1, by omega, by omega⟩)).trans (hfG x y x9 x3 x4 (fun q => hx ⟨q.1, by omega, by omega⟩)), el, fun _ => ⟨⟨H, pg_F hg1 (fun x y q => a2 x y (by omega) (by omega) (by omega) (by omega) (by omega) (fun z => by omega))⟩, a4⟩, fun n => ?_⟩
  have e18 : σ'.2.1 68 18 = σ.2.1 68 18 := (a2 68 18 (by decide) (by decide) (by decide) (by decide) (by decide) (fun q => absurd q.2 (by decide))).trans (hfG 68 18 (by decide) (by decide) (by decide) (fun q => by have := q.2; omega))
  rw [e18] at n
  obtain ⟨n17, hS0, H', hg', hc'⟩ := hP.2 n
  have em := hsm n17
  have f2 : ∀ x y, (x = 69 ∨ x = 71 ∨ (x = 68 ∧ y = 16)) → σ'.2.1 x y = σ.2.1 x y := fun x y q => by
    rw [← em]
    exact a2 x y (by omega) (by omega) (by omega) (by omega) (by omega) (fun z => by omega)
  refine ⟨by rw [a2 68 17 (by decide) (by decide) (by decide) (by decide) (by decide) (fun q => absurd q.2 (by decide))]; exact hn1, ?_, H', pg_F hg' (fun x y q => f2 x y (by omega)), ?_⟩
  · intro UP k f h1 h2 h3
    rw [f2 71 _ (Or.inr (Or.inl rfl))]
    exact hS0 UP k f h1 h2 h3
  · rw [el]
    exact hc'
theorem ax_seL (G : sx_G0 g L xs z9 hd_C ex_mt) {s : Nat → Int32} (b : pn_B s) (bw : pl_W s) (b6 : pl_B6 s) {H : Nat} {post : Option (Option Value) → am_S → Prop} : ∀ (f j : Nat) (n mo : Int32) (σ : am_S), ax_S σ → pc_X s σ → pg_K s H σ.2.1 → pk_r s σ.2.1 → n.toInt = ((j + 1 : Nat) : Int) → j + f = pz_W s → mo.toInt = (pz_se s j : Int) → (∀ (z : Int32) (σ' : am_S), ax_S σ' → (∀ x y, x ≠ 70 → x ≠ 73 → x ≠ 74 → x ≠ 78 → x ≠ 79 → ¬ (x = 68 ∧ y = 15) → σ'.2.1 x y = σ.2.1 x y) → σ'.2.2.1 = σ.2.2.1 → pk_r s σ'.2.1 → z.toInt = (pz_se s (pz_W s) : Int) → post (some (some (.int z))) σ') → am_K g 10 tX11_sellers.1 0 0 23 [(2, .int n), (1, .int mo), (0, .ref 0)] [] σ post := by
  have hs1 := b.1.1.1
  have hW10 : pz_W s ≤ 10 := by have := b.1.1.2; unfold pz_W; omega
  intro f
  induction f with
  | zero =>
    intro j n mo σ hS hX hg hr en hj hm kk
    have hW : (σ.2.1 4 7).toInt = (pz_W s : Int) := by rw [hX.1.1]; unfold pz_W; omega
    refine kr_iload_n 0 rd_d_X11_sellers_23 rfl ?_
    refine kr_aload_n 2 rd_d_X11_sellers_24 rfl ?_
    refine kr_getf G.1 (rd_FL rd_k_X11_sellers_25).1 rd_d_X11_sellers_25 (hS.1 0 (.inl 11) rfl) (v := .ref 4) (by unfold am_fa; rw [(rd_FL rd_k_X11_sellers_25).2]; exact hS.2 0 2 4 rfl) ?_
    refine kr_getf G.1 (rd_FL rd_k_X11_sellers_28).1 rd_d_X11_sellers_28 (hS.1 4 (.inl 9) rfl) (v := .int (σ.2.1 4 7)) (by unfold am_fa; rw [(rd_FL rd_k_X11_sellers_28).2]; rfl) ?_
    refine kr_icmp_gt (tgt := 53) rd_d_X11_sellers_31 rfl (fun h1 => ?_) (fun h1 => ?_)
    · refine kr_iload_n 1 rd_d_X11_sellers_53 rfl ?_
      have e : j = pz_W s := by omega
      exact kr_ireturn rd_d_X11_sellers_54 (ty := .int) rfl rfl (kk _ σ hS (fun _ _ _ _ _ _ _ _ => rfl) rfl hr (by rw [← e]; exact hm))
    · exact absurd (Int32.lt_iff_toInt_lt.mpr (by omega)) h1
  | succ f ih =>
    intro j n mo σ hS hX hg hr en hj hm kk
    have hW : (σ.2.1 4 7).toInt = (pz_W s : Int) := by rw [hX.1.1]; unfold pz_W; omega
    refine kr_iload_n 0 rd_d_X11_sellers_23 rfl ?_
    refine kr_aload_n 2 rd_d_X11_sellers_24 rfl ?_
    refine kr_getf G.1 (rd_FL rd_k_X11_sellers_25).1 rd_d_X11_sellers_25 (hS.1 0 (.inl 11) rfl) (v := .ref 4) (by unfold am_fa; rw [(rd_FL rd_k_X11_sellers_25).2]; exact hS.2 0 2 4 rfl) ?_
    refine kr_getf G.1 (rd_FL rd_k_X11_sellers_28).1 rd_d_X11_sellers_28 (hS.1 4 (.inl 9) rfl) (v := .int (σ.2.1 4 7)) (by unfold am_fa; rw [(rd_FL rd_k_X11_sellers_28).2]; rfl) ?_
    refine kr_icmp_gt (tgt := 53) rd_d_X11_sellers_31 rfl (fun h21 => ?_) (fun h21 => ?_)
    · refine kr_iload_n 1 rd_d_X11_sellers_53 rfl ?_
      have := Int32.lt_iff_toInt_lt.mp h21
      omega
    · refine kr_aload_n 2 rd_d_X11_sellers_34 rfl ?_
      refine kr_getf G.1 (rd_FL rd_k_X11_sellers_35).1 rd_d_X11_sellers_35 (hS.1 0 (.inl 11) rfl) (v := .ref 68) (by unfold am_fa; rw [(rd_FL rd_k_X11_sellers_35).2]; exact hS.2 0 9 68 rfl) ?_
      refine kr_iload_n 0 rd_d_X11_sellers_38 rfl ?_
      refine rd_call G (T2 := tX4_allEarn) rfl rd_d_X11_sellers_39 rd_k_X11_sellers_39 rfl (hS.1 68 (.inl 4) rfl) (as := [.int n]) (st := []) rfl (Nat.le_of_ble_eq_true rfl) rfl (Nat.le_of_ble_eq_true rfl) (d1 := 9) (by decide) (fun _ h => by obtain ⟨⟨y, h, -⟩, -⟩ := h; cases h) (ax_all G b bw b6 hS hX hg hr en (by omega) (by omega)) ?_
      intro v1 σ1 ⟨⟨z, hv1, hz⟩, hS1, hf1, hl1, hr1⟩
      cases hv1
      have hX1 : pc_X s σ1 := pc_F hX (fun x y q => hf1 x y (by omega) (by omega) (by omega) (by omega) (by omega) (fun z => by omega))
      have hg1 : pg_K s H σ1.2.1 := pg_F hg (fun x y q => hf1 x y (by omega) (by omega) (by omega) (by omega) (by omega) (fun z => by omega))
      refine kr_if_eq (tgt := 47) rd_d_X11_sellers_42 rfl (fun h41 => ?_) (fun h41 => ?_)
      · refine kr_iinc (v := n + 1) (lv' := [(2, .int (n + 1)), (1, .int mo), (0, .ref 0)]) 0 rd_d_X11_sellers_47 rfl rfl (by decide) rfl ?_
        refine kr_goto (tgt := 23) rd_d_X11_sellers_50 rfl ?_
        refine kr_sub (lv' := [(2, .int (n + 1)), (1, .int mo), (0, .ref 0)]) (by simp) ?_
        refine ih (j + 1) (n + 1) mo σ1 hS1 hX1 hg1 hr1 (ax_inc en (by omega)) (by omega) (by rw [hz] at h41; show mo.toInt = ((if pz_al s (j + 1) (j + 1) then j + 1 else pz_se s j : Nat) : Int); by_cases e : pz_al s (j + 1) (j + 1) = true; (· rw [if_pos e] at h41; exact absurd h41 (by decide)); (· rw [if_neg e]; exact hm)) ?_
        exact fun z' σ' a1 a2 a3 a4 a5 => kk z' σ' a1 (fun x y x0 x3 x4 x8 x9 hx => (a2 x y x0 x3 x4 x8 x9 hx).trans (hf1 x y x0 x3 x4 x8 x9 hx)) (a3.trans hl1) a4 a5
      · refine kr_iload_n 0 rd_d_X11_sellers_45 rfl ?_
        refine kr_istore_n (lv' := [(1, .int n), (2, .int n), (0, .ref 0)]) rd_d_X11_sellers_46 (by decide) rfl ?_
        refine kr_iinc (v := n + 1) (lv' := [(2, .int (n + 1)), (1, .int n), (0, .ref 0)]) 1 rd_d_X11_sellers_47 rfl rfl (by decide) rfl ?_
        refine kr_goto (tgt := 23) rd_d_X11_sellers_50 rfl ?_
        refine kr_sub (lv' := [(2, .int (n + 1)), (1, .int n), (0, .ref 0)]) (by simp) ?_
        refine ih (j + 1) (n + 1) n σ1 hS1 hX1 hg1 hr1 (ax_inc en (by omega)) (by omega) (by rw [hz] at h41; show n.toInt = ((if pz_al s (j + 1) (j + 1) then j + 1 else pz_se s j : Nat) : Int); by_cases e : pz_al s (j + 1) (j + 1) = true; (· rw [if_pos e]; exact en); (· rw [if_neg e] at h41; exact absurd rfl h41)) ?_
        exact fun z' σ' a1 a2 a3 a4 a5 => kk z' σ' a1 (fun x y x0 x3 x4 x8 x9 hx => (a2 x y x0 x3 x4 x8 x9 hx).trans (hf1 x y x0 x3 x4 x8 x9 hx)) (a3.trans hl1) a4 a5
/-- the answer of sellers -/
def pz_seA (s : Nat → Int32) : Int := if s 0 = 0 then -1 else (pz_se s (pz_W s) : Int)
theorem ax_seX (G : sx_G0 g L xs z9 hd_C ex_mt) {s : Nat → Int32} (b : pn_B s) (b3 : pl_B3 s) (bw : pl_W s) (b5 : pl_B5 s) (b6 : pl_B6 s) {CH : List Nat → Nat → Nat → Int64 → Prop} {σ : am_S} (hS : ax_S σ) (hX : pc_X s σ) (hP : pk_P CH s σ) : am_K g 10 tX11_sellers.1 0 0 0 (lv_args 0 [.ref 0]) [] σ (fun r σ' => (∃ z : Int32, r = some (some (.int z)) ∧ z.toInt = pz_seA s) ∧ ax_S σ' ∧ (∀ x y, x ≠ 69 → x ≠ 70 → x ≠ 73 → x ≠ 74 → x ≠ 78 → x ≠ 79 → ¬ (x = 68 ∧ 15 ≤ y ∧ y ≤ 17) → σ'.2.1 x y = σ.2.1 x y) ∧ σ'.2.2.1 = σ.2.2.1 ∧ pk_P CH s σ') := by
  have h7 : σ.2.1 4 7 = s 0 := pl_w hX.1
  refine kr_aload_n 0 rd_d_X11_sellers_0 rfl ?_
  refine kr_getf G.1 (rd_FL rd_k_X11_sellers_1).1 rd_d_X11_sellers_1 (hS.1 0 (.inl 11) rfl) (v := .ref 4) (by unfold am_fa; rw [(rd_FL rd_k_X11_sellers_1).2]; exact hS.2 0 2 4 rfl) ?_
  refine kr_getf G.1 (rd_FL rd_k_X11_sellers_4).1 rd_d_X11_sellers_4 (hS.1 4 (.inl 9) rfl) (v := .int (σ.2.1 4 7)) (by unfold am_fa; rw [(rd_FL rd_k_X11_sellers_4).2]; rfl) ?_
  refine kr_if_ne (tgt := 12) rd_d_X11_sellers_7 rfl (fun h1 => ?_) (fun h1 => ?_)
  · refine kr_aload_n 0 rd_d_X11_sellers_12 rfl ?_
    refine kr_getf G.1 (rd_FL rd_k_X11_sellers_13).1 rd_d_X11_sellers_13 (hS.1 0 (.inl 11) rfl) (v := .ref 68) (by unfold am_fa; rw [(rd_FL rd_k_X11_sellers_13).2]; exact hS.2 0 9 68 rfl) ?_
    refine rd_call G (T2 := tX4_prepareGains) rfl rd_d_X11_sellers_16 rd_k_X11_sellers_16 rfl (hS.1 68 (.inl 4) rfl) (as := []) (st := []) rfl (Nat.le_of_ble_eq_true rfl) rfl (Nat.le_of_ble_eq_true rfl) (d1 := 5) (by decide) (fun _ h => by cases h.1) (ax_pg G hS b bw b5 hX hP.1) ?_
    intro v1 σ1 ⟨hv1, hS1, hfG, hlG, hn1, hsm, ⟨H, hg1⟩, hr1⟩
    cases hv1
    have hX1 : pc_X s σ1 := pc_F hX (fun x y q => hfG x y (by omega) (by omega) (by omega) (fun z => by omega))
    refine kr_iconst (v := 0) rd_d_X11_sellers_19 (by decide) ?_
    refine kr_istore_n (lv' := [(1, .int 0), (0, .ref 0)]) rd_d_X11_sellers_20 (by decide) rfl ?_
    refine kr_iconst (v := 1) rd_d_X11_sellers_21 (by decide) ?_
    refine kr_istore_n (lv' := [(2, .int 1), (1, .int 0), (0, .ref 0)]) rd_d_X11_sellers_22 (by decide) rfl ?_
    refine ax_seL G b bw b6 (pz_W s) 0 1 0 σ1 hS1 hX1 hg1 hr1 rfl (by omega) rfl (fun z σ' a1 a2 a3 a4 a5 => ⟨⟨z, rfl, ?_⟩, a1, pk_P2 hP hfG hlG hn1 hsm hg1 a2 a3 a4⟩)
    rw [pz_seA, if_neg (by rw [← h7]; exact h1)]
    exact a5
  · refine kr_iconst (v := (-1)) rd_d_X11_sellers_10 (by decide) ?_
    exact kr_ireturn rd_d_X11_sellers_11 (ty := .int) rfl rfl ⟨⟨_, rfl, by rw [pz_seA, if_pos (by rw [← h7]; exact h1)]; rfl⟩, hS, fun _ _ _ _ _ _ _ _ _ => rfl, rfl, hP⟩
def ax_f_abs (x : Int32) : Int32 := if 0 ≤ x then x else 0 - x
theorem ch_abs {a b : Nat} {x y : Int32} (hx : x.toInt = (a : Int)) (hy : y.toInt = (b : Int)) (ha : a ≤ 100000000) (hb : b ≤ 100000000) : (ax_f_abs (x - y)).toInt = (((a - b) + (b - a) : Nat) : Int) := by
  have e := sx_subI x y (by show (-2147483648 : Int) ≤ _; omega) (by show _ ≤ (2147483647 : Int); omega)
  have z0 : (0 : Int32).toInt = 0 := rfl
  rw [ax_f_abs]
  split
  · rename_i h
    have := Int32.le_iff_toInt_le.mp h
    omega
  · rename_i h
    have h' : ¬ (0 : Int32).toInt ≤ (x - y).toInt := fun q => h (Int32.le_iff_toInt_le.mpr q)
    have e2 := sx_subI 0 (x - y) (by show (-2147483648 : Int) ≤ _; omega) (by show _ ≤ (2147483647 : Int); omega)
    omega
theorem pz_gL {s : Nat → Int32} (b : pn_B s) {w : Int32} {W : Nat} (ew : w.toInt = (W : Int)) (h : W ≤ pz_W s) : pz_g s 0 (w - 1) = pz_le s W := by
  have h10 := b.1.1.2
  have z0 : (0 : Int32).toInt = 0 := rfl
  have z1 : (1 : Int32).toInt = 1 := rfl
  have hW : pz_W s ≤ 10 := by unfold pz_W; omega
  have e := sx_subI w 1 (by show (-2147483648 : Int) ≤ _; omega) (by show _ ≤ (2147483647 : Int); omega)
  unfold pz_le
  by_cases q : W = 0
  · rw [if_pos q, pz_g]
    have hc : ax_f_win s (w - 1) = 0 := by rw [ax_f_win, ax_f_isIn, if_pos (Int32.lt_iff_toInt_lt.mpr (by omega))]
    by_cases h0 : ax_f_win s 0 = 0
    · rw [if_pos h0]
    · rw [if_neg h0, if_pos hc]
  · rw [if_neg q]
    unfold pz_W at h
    exact pz_gN b (A := 0) (Q := W - 1) rfl (by omega) (by omega) (by omega)
theorem pz_gR {s : Nat → Int32} (b : pn_B s) {w x : Int32} {W : Nat} (ew : w.toInt = (W : Int)) (h : W ≤ pz_W s) (ex : x = s 0) : pz_g s w (x - 1) = pz_ri s W := by
  have h10 := b.1.1
  have z0 : (0 : Int32).toInt = 0 := rfl
  have z1 : (1 : Int32).toInt = 1 := rfl
  have hW : pz_W s ≤ 10 := by unfold pz_W; omega
  have hx : x.toInt = (pz_W s : Int) := by rw [ex]; unfold pz_W; omega
  have e := sx_subI x 1 (by show (-2147483648 : Int) ≤ _; omega) (by show _ ≤ (2147483647 : Int); omega)
  unfold pz_ri
  by_cases q : W = pz_W s
  · rw [if_pos q, pz_g]
    have hc : ax_f_win s w = 0 := by
      have e2 := sx_subI (s 0) 1 (by show (-2147483648 : Int) ≤ _; omega) (by show _ ≤ (2147483647 : Int); omega)
      have e3 : (s 0).toInt = (pz_W s : Int) := by rw [← ex]; exact hx
      rw [ax_f_win, ax_f_isIn, if_neg (fun z => by have := Int32.lt_iff_toInt_lt.mp z; omega), if_pos (Int32.lt_iff_toInt_lt.mpr (by omega))]
    rw [if_pos hc]
  · rw [if_neg q]
    unfold pz_W at h q hx ⊢
    exact pz_gN b ew (by omega) (by omega) (by omega)
theorem pz_le_b {s : Nat → Int32} (b : pn_B s) (b6 : pl_B6 s) {W : Nat} (h : W ≤ pz_W s) : pz_le s W ≤ 3079296 ∧ pz_ri s W ≤ 3079296 := by
  have h1 := b.1.1
  unfold pz_le pz_ri
  unfold pz_W at h
  refine ⟨?_, ?_⟩
  · split
    · omega
    · exact pz_rg_le b b6 (Nat.zero_le _) (by omega)
  · unfold pz_W
    split
    · omega
    · exact pz_rg_le b b6 (by omega) (by omega)
theorem ax_boL (G : sx_G0 g L xs z9 hd_C ex_mt) {s : Nat → Int32} (b : pn_B s) (bw : pl_W s) (b6 : pl_B6 s) {H : Nat} {post : Option (Option Value) → am_S → Prop} : ∀ (f j : Nat) (w ls fd : Int32) (σ : am_S), ax_S σ → pc_X s σ → pg_K s H σ.2.1 → pk_r s σ.2.1 → w.toInt = (j : Int) → j + f = pz_W s + 1 → pz_I (pz_ap s) j ls fd → (∀ (z : Int32) (σ' : am_S), ax_S σ' → (∀ x y, x ≠ 70 → x ≠ 73 → x ≠ 74 → x ≠ 78 → x ≠ 79 → ¬ (x = 68 ∧ y = 15) → σ'.2.1 x y = σ.2.1 x y) → σ'.2.2.1 = σ.2.2.1 → pk_r s σ'.2.1 → z.toInt = ((pz_mn (pz_ap s) (pz_W s)).2 : Int) → post (some (some (.int z))) σ') → am_K g 8 tX11_border.1 0 0 13 [(3, .int w), (2, .int ls), (1, .int fd), (0, .ref 0)] [] σ post := by
  have hs1 := b.1.1.1
  have hW10 : pz_W s ≤ 10 := by have := b.1.1.2; unfold pz_W; omega
  intro f
  induction f with
  | zero =>
    intro j w ls fd σ hS hX hg hr ew hj hI kk
    have hW : (σ.2.1 4 7).toInt = (pz_W s : Int) := by rw [hX.1.1]; unfold pz_W; omega
    refine kr_iload_n 0 rd_d_X11_border_13 rfl ?_
    refine kr_aload_n 3 rd_d_X11_border_14 rfl ?_
    refine kr_getf G.1 (rd_FL rd_k_X11_border_15).1 rd_d_X11_border_15 (hS.1 0 (.inl 11) rfl) (v := .ref 4) (by unfold am_fa; rw [(rd_FL rd_k_X11_border_15).2]; exact hS.2 0 2 4 rfl) ?_
    refine kr_getf G.1 (rd_FL rd_k_X11_border_18).1 rd_d_X11_border_18 (hS.1 4 (.inl 9) rfl) (v := .int (σ.2.1 4 7)) (by unfold am_fa; rw [(rd_FL rd_k_X11_border_18).2]; rfl) ?_
    refine kr_icmp_gt (tgt := 80) rd_d_X11_border_21 rfl (fun h1 => ?_) (fun h1 => ?_)
    · refine kr_iload_n 2 rd_d_X11_border_80 rfl ?_
      refine kr_ireturn rd_d_X11_border_81 (ty := .int) rfl rfl (kk _ σ hS (fun _ _ _ _ _ _ _ _ => rfl) rfl hr ?_)
      rcases hI with ⟨h0, -⟩ | ⟨k2, hk2, -, h4⟩
      · omega
      · have : k2 = pz_W s := by omega
        rw [← this]
        exact h4
    · exact absurd (Int32.lt_iff_toInt_lt.mpr (by omega)) h1
  | succ f ih =>
    intro j w ls fd σ hS hX hg hr ew hj hI kk
    have hW : (σ.2.1 4 7).toInt = (pz_W s : Int) := by rw [hX.1.1]; unfold pz_W; omega
    have hjW : j ≤ pz_W s := by omega
    have hbd := pz_le_b b b6 hjW
    refine kr_iload_n 0 rd_d_X11_border_13 rfl ?_
    refine kr_aload_n 3 rd_d_X11_border_14 rfl ?_
    refine kr_getf G.1 (rd_FL rd_k_X11_border_15).1 rd_d_X11_border_15 (hS.1 0 (.inl 11) rfl) (v := .ref 4) (by unfold am_fa; rw [(rd_FL rd_k_X11_border_15).2]; exact hS.2 0 2 4 rfl) ?_
    refine kr_getf G.1 (rd_FL rd_k_X11_border_18).1 rd_d_X11_border_18 (hS.1 4 (.inl 9) rfl) (v := .int (σ.2.1 4 7)) (by unfold am_fa; rw [(rd_FL rd_k_X11_border_18).2]; rfl) ?_
    refine kr_icmp_gt (tgt := 80) rd_d_X11_border_21 rfl (fun h21 => ?_) (fun h21 => ?_)
    · refine kr_iload_n 2 rd_d_X11_border_80 rfl ?_
      have := Int32.lt_iff_toInt_lt.mp h21
      omega
    · refine kr_aload_n 3 rd_d_X11_border_24 rfl ?_
      refine kr_getf G.1 (rd_FL rd_k_X11_border_25).1 rd_d_X11_border_25 (hS.1 0 (.inl 11) rfl) (v := .ref 68) (by unfold am_fa; rw [(rd_FL rd_k_X11_border_25).2]; exact hS.2 0 9 68 rfl) ?_
      refine kr_iconst (v := 0) rd_d_X11_border_28 (by decide) ?_
      refine kr_iload_n 0 rd_d_X11_border_29 rfl ?_
      refine kr_iconst (v := 1) rd_d_X11_border_30 (by decide) ?_
      refine kr_isub rd_d_X11_border_31 ?_
      refine rd_call G (T2 := tX4_rowGain) rfl rd_d_X11_border_32 rd_k_X11_border_32 rfl (hS.1 68 (.inl 4) rfl) (as := [.int 0, .int (w - 1)]) (st := []) rfl (Nat.le_of_ble_eq_true rfl) rfl (Nat.le_of_ble_eq_true rfl) (d1 := 7) (by decide) (fun _ h => by obtain ⟨⟨y, h, -⟩, -⟩ := h; cases h) (ax_rg G b bw b6 hS hX hg hr) ?_
      intro v1 σ1 ⟨⟨z1, hv1, hz1⟩, hS1, hf1, hl1, hr1⟩
      cases hv1
      have hX1 : pc_X s σ1 := pc_F hX (fun x y q => hf1 x y (by omega) (by omega) (by omega) (by omega) (by omega) (fun z => by omega))
      have hg1 : pg_K s H σ1.2.1 := pg_F hg (fun x y q => hf1 x y (by omega) (by omega) (by omega) (by omega) (by omega) (fun z => by omega))
      rw [pz_gL b ew hjW] at hz1
      have h7 : σ1.2.1 4 7 = s 0 := pl_w hX1.1
      refine kr_aload_n 3 rd_d_X11_border_35 rfl ?_
      refine kr_getf G.1 (rd_FL rd_k_X11_border_36).1 rd_d_X11_border_36 (hS1.1 0 (.inl 11) rfl) (v := .ref 68) (by unfold am_fa; rw [(rd_FL rd_k_X11_border_36).2]; exact hS1.2 0 9 68 rfl) ?_
      refine kr_iload_n 0 rd_d_X11_border_39 rfl ?_
      refine kr_aload_n 3 rd_d_X11_border_40 rfl ?_
      refine kr_getf G.1 (rd_FL rd_k_X11_border_41).1 rd_d_X11_border_41 (hS1.1 0 (.inl 11) rfl) (v := .ref 4) (by unfold am_fa; rw [(rd_FL rd_k_X11_border_41).2]; exact hS1.2 0 2 4 rfl) ?_
      refine kr_getf G.1 (rd_FL rd_k_X11_border_44).1 rd_d_X11_border_44 (hS1.1 4 (.inl 9) rfl) (v := .int (σ1.2.1 4 7)) (by unfold am_fa; rw [(rd_FL rd_k_X11_border_44).2]; rfl) ?_
      refine kr_iconst (v := 1) rd_d_X11_border_47 (by decide) ?_
      refine kr_isub rd_d_X11_border_48 ?_
      refine rd_call G (T2 := tX4_rowGain) rfl rd_d_X11_border_49 rd_k_X11_border_49 rfl (hS1.1 68 (.inl 4) rfl) (as := [.int w, .int ((σ1.2.1 4 7) - 1)]) (st := [.int z1]) rfl (Nat.le_of_ble_eq_true rfl) rfl (Nat.le_of_ble_eq_true rfl) (d1 := 7) (by decide) (fun _ h => by obtain ⟨⟨y, h, -⟩, -⟩ := h; cases h) (ax_rg G b bw b6 hS1 hX1 hg1 hr1) ?_
      intro v2 σ2 ⟨⟨z2, hv2, hz2⟩, hS2, hf2, hl2, hr2⟩
      cases hv2
      rw [pz_gR b ew hjW h7] at hz2
      have hX2 : pc_X s σ2 := pc_F hX1 (fun x y q => hf2 x y (by omega) (by omega) (by omega) (by omega) (by omega) (fun z => by omega))
      have hg2 : pg_K s H σ2.2.1 := pg_F hg1 (fun x y q => hf2 x y (by omega) (by omega) (by omega) (by omega) (by omega) (fun z => by omega))
      have hap : (ax_f_abs (z1 - z2)).toInt = (pz_ap s j : Int) := ch_abs hz1 hz2 (by omega) (by omega)
      have zm : ((-1 : Int32)).toInt = -1 := rfl
      have I2 := pz_Is hI ew hap
      refine kr_isub rd_d_X11_border_52 ?_
      refine kr_mabs G.1 (ex_mem_ok (show ex_mem 327772 (Cond.methodLink tX11_border.1.1.cls 351 Lib.Math.abs.name) = true from rd_k_X11_border_53)) rd_d_X11_border_53 (by decide) (Nat.le_of_ble_eq_true rfl) ?_
      show am_K g 8 tX11_border.1 0 0 56 [(3, .int w), (2, .int ls), (1, .int fd), (0, .ref 0)] [.int (ax_f_abs (z1 - z2))] σ2 _
      refine kr_istore (lv' := [(4, .int (ax_f_abs (z1 - z2))), (3, .int w), (2, .int ls), (1, .int fd), (0, .ref 0)]) rd_d_X11_border_56 (by decide) rfl ?_
      refine kr_iload_n 2 rd_d_X11_border_58 rfl ?_
      refine kr_iconst (v := (-1)) rd_d_X11_border_59 (by decide) ?_
      refine kr_icmp_eq (tgt := 69) rd_d_X11_border_60 rfl (fun h41 => ?_) (fun h41 => ?_)
      · refine kr_iload 0 rd_d_X11_border_69 rfl ?_
        refine kr_istore_n (lv' := [(2, .int (ax_f_abs (z1 - z2))), (4, .int (ax_f_abs (z1 - z2))), (3, .int w), (1, .int fd), (0, .ref 0)]) rd_d_X11_border_71 (by decide) rfl ?_
        refine kr_iload_n 2 rd_d_X11_border_72 rfl ?_
        refine kr_istore_n (lv' := [(1, .int w), (2, .int (ax_f_abs (z1 - z2))), (4, .int (ax_f_abs (z1 - z2))), (3, .int w), (0, .ref 0)]) rd_d_X11_border_73 (by decide) rfl ?_
        refine kr_iinc (v := w + 1) (lv' := [(3, .int (w + 1)), (1, .int w), (2, .int (ax_f_abs (z1 - z2))), (4, .int (ax_f_abs (z1 - z2))), (0, .ref 0)]) 3 rd_d_X11_border_74 rfl rfl (by decide) rfl ?_
        refine kr_goto (tgt := 13) rd_d_X11_border_77 rfl ?_
        refine kr_sub (lv' := [(3, .int (w + 1)), (2, .int (ax_f_abs (z1 - z2))), (1, .int w), (0, .ref 0)]) (by simp) ?_
        refine ih (j + 1) (w + 1) (ax_f_abs (z1 - z2)) w σ2 hS2 hX2 hg2 hr2 (ax_inc ew (by omega)) (by omega) (I2.1 (Or.inl (by rw [h41]; rfl))) ?_
        exact fun z' σ' a1 a2 a3 a4 a5 => kk z' σ' a1 (fun x y x0 x3 x4 x8 x9 hx => (a2 x y x0 x3 x4 x8 x9 hx).trans ((hf2 x y x0 x3 x4 x8 x9 hx).trans (hf1 x y x0 x3 x4 x8 x9 hx))) (a3.trans (hl2.trans hl1)) a4 a5
      · refine kr_iload 0 rd_d_X11_border_63 rfl ?_
        refine kr_iload_n 2 rd_d_X11_border_65 rfl ?_
        refine kr_icmp_ge (tgt := 74) rd_d_X11_border_66 rfl (fun h42 => ?_) (fun h42 => ?_)
        · refine kr_iinc (v := w + 1) (lv' := [(3, .int (w + 1)), (4, .int (ax_f_abs (z1 - z2))), (2, .int ls), (1, .int fd), (0, .ref 0)]) 1 rd_d_X11_border_74 rfl rfl (by decide) rfl ?_
          refine kr_goto (tgt := 13) rd_d_X11_border_77 rfl ?_
          refine kr_sub (lv' := [(3, .int (w + 1)), (2, .int ls), (1, .int fd), (0, .ref 0)]) (by simp) ?_
          refine ih (j + 1) (w + 1) ls fd σ2 hS2 hX2 hg2 hr2 (ax_inc ew (by omega)) (by omega) (I2.2 (fun q => by rcases q with q | q; (· exact h41 (Int32.toInt_inj.mp (by rw [q, zm]))); (· have := Int32.le_iff_toInt_le.mp h42; omega))) ?_
          exact fun z' σ' a1 a2 a3 a4 a5 => kk z' σ' a1 (fun x y x0 x3 x4 x8 x9 hx => (a2 x y x0 x3 x4 x8 x9 hx).trans ((hf2 x y x0 x3 x4 x8 x9 hx).trans (hf1 x y x0 x3 x4 x8 x9 hx))) (a3.trans (hl2.trans hl1)) a4 a5
        · refine kr_iload 0 rd_d_X11_border_69 rfl ?_
          refine kr_istore_n (lv' := [(2, .int (ax_f_abs (z1 - z2))), (4, .int (ax_f_abs (z1 - z2))), (3, .int w), (1, .int fd), (0, .ref 0)]) rd_d_X11_border_71 (by decide) rfl ?_
          refine kr_iload_n 2 rd_d_X11_border_72 rfl ?_
          refine kr_istore_n (lv' := [(1, .int w), (2, .int (ax_f_abs (z1 - z2))), (4, .int (ax_f_abs (z1 - z2))), (3, .int w), (0, .ref 0)]) rd_d_X11_border_73 (by decide) rfl ?_
          refine kr_iinc (v := w + 1) (lv' := [(3, .int (w + 1)), (1, .int w), (2, .int (ax_f_abs (z1 - z2))), (4, .int (ax_f_abs (z1 - z2))), (0, .ref 0)]) 3 rd_d_X11_border_74 rfl rfl (by decide) rfl ?_
          refine kr_goto (tgt := 13) rd_d_X11_border_77 rfl ?_
          refine kr_sub (lv' := [(3, .int (w + 1)), (2, .int (ax_f_abs (z1 - z2))), (1, .int w), (0, .ref 0)]) (by simp) ?_
          refine ih (j + 1) (w + 1) (ax_f_abs (z1 - z2)) w σ2 hS2 hX2 hg2 hr2 (ax_inc ew (by omega)) (by omega) (I2.1 (Or.inr (by have : ¬ ls.toInt ≤ (ax_f_abs (z1 - z2)).toInt := fun q => h42 (Int32.le_iff_toInt_le.mpr q); omega))) ?_
          exact fun z' σ' a1 a2 a3 a4 a5 => kk z' σ' a1 (fun x y x0 x3 x4 x8 x9 hx => (a2 x y x0 x3 x4 x8 x9 hx).trans ((hf2 x y x0 x3 x4 x8 x9 hx).trans (hf1 x y x0 x3 x4 x8 x9 hx))) (a3.trans (hl2.trans hl1)) a4 a5
theorem ax_boX (G : sx_G0 g L xs z9 hd_C ex_mt) {s : Nat → Int32} (b : pn_B s) (b3 : pl_B3 s) (bw : pl_W s) (b5 : pl_B5 s) (b6 : pl_B6 s) {CH : List Nat → Nat → Nat → Int64 → Prop} {σ : am_S} (hS : ax_S σ) (hX : pc_X s σ) (hP : pk_P CH s σ) : am_K g 8 tX11_border.1 0 0 0 (lv_args 0 [.ref 0]) [] σ (fun r σ' => (∃ z : Int32, r = some (some (.int z)) ∧ z.toInt = ((pz_mn (pz_ap s) (pz_W s)).2 : Int)) ∧ ax_S σ' ∧ (∀ x y, x ≠ 69 → x ≠ 70 → x ≠ 73 → x ≠ 74 → x ≠ 78 → x ≠ 79 → ¬ (x = 68 ∧ 15 ≤ y ∧ y ≤ 17) → σ'.2.1 x y = σ.2.1 x y) ∧ σ'.2.2.1 = σ.2.2.1 ∧ pk_P CH s σ') := by
  refine kr_aload_n 0 rd_d_X11_border_0 rfl ?_
  refine kr_getf G.1 (rd_FL rd_k_X11_border_1).1 rd_d_X11_border_1 (hS.1 0 (.inl 11) rfl) (v := .ref 68) (by unfold am_fa; rw [(rd_FL rd_k_X11_border_1).2]; exact hS.2 0 9 68 rfl) ?_
  refine rd_call G (T2 := tX4_prepareGains) rfl rd_d_X11_border_4 rd_k_X11_border_4 rfl (hS.1 68 (.inl 4) rfl) (as := []) (st := []) rfl (Nat.le_of_ble_eq_true rfl) rfl (Nat.le_of_ble_eq_true rfl) (d1 := 5) (by decide) (fun _ h => by cases h.1) (ax_pg G hS b bw b5 hX hP.1) ?_
  intro v1 σ1 ⟨hv1, hS1, hfG, hlG, hn1, hsm, ⟨H, hg1⟩, hr1⟩
  cases hv1
  have hX1 : pc_X s σ1 := pc_F hX (fun x y q => hfG x y (by omega) (by omega) (by omega) (fun z => by omega))
  refine kr_iconst (v := 0) rd_d_X11_border_7 (by decide) ?_
  refine kr_istore_n (lv' := [(1, .int 0), (0, .ref 0)]) rd_d_X11_border_8 (by decide) rfl ?_
  refine kr_iconst (v := (-1)) rd_d_X11_border_9 (by decide) ?_
  refine kr_istore_n (lv' := [(2, .int ((-1))), (1, .int 0), (0, .ref 0)]) rd_d_X11_border_10 (by decide) rfl ?_
  refine kr_iconst (v := 0) rd_d_X11_border_11 (by decide) ?_
  refine kr_istore_n (lv' := [(3, .int 0), (2, .int ((-1))), (1, .int 0), (0, .ref 0)]) rd_d_X11_border_12 (by decide) rfl ?_
  exact ax_boL G b bw b6 (pz_W s + 1) 0 0 (-1) 0 σ1 hS1 hX1 hg1 hr1 rfl (by omega) (Or.inl ⟨rfl, rfl, rfl⟩) (fun z σ' a1 a2 a3 a4 a5 => ⟨⟨z, rfl, a5⟩, a1, pk_P2 hP hfG hlG hn1 hsm hg1 a2 a3 a4⟩)
end AXX
