/-! exact answers, further (rows written by a program) -/
theorem rd_d_X12_draws_0 : decode tX12_draws.1.2.1 0 = .ok (.aload_n 0, 1) := by decide +kernel
theorem rd_d_X12_draws_1 : decode tX12_draws.1.2.1 1 = .ok (.getfield 33, 3) := by decide +kernel
theorem rd_k_X12_draws_1 : ex_lk ex_mt tX12_draws 1 (.getfield 33) [12, 6, 2, 458773] = true := by decide +kernel
theorem rd_d_X12_draws_4 : decode tX12_draws.1.2.1 4 = .ok (.bipush 75, 2) := by decide +kernel
theorem rd_d_X12_draws_6 : decode tX12_draws.1.2.1 6 = .ok (.iaload, 1) := by decide +kernel
theorem rd_d_X12_draws_7 : decode tX12_draws.1.2.1 7 = .ok (.istore_n 3, 1) := by decide +kernel
theorem rd_d_X12_draws_8 : decode tX12_draws.1.2.1 8 = .ok (.aload_n 0, 1) := by decide +kernel
theorem rd_d_X12_draws_9 : decode tX12_draws.1.2.1 9 = .ok (.getfield 33, 3) := by decide +kernel
theorem rd_k_X12_draws_9 : ex_lk ex_mt tX12_draws 9 (.getfield 33) [12, 6, 2, 458773] = true := by decide +kernel
theorem rd_d_X12_draws_12 : decode tX12_draws.1.2.1 12 = .ok (.bipush 75, 2) := by decide +kernel
theorem rd_d_X12_draws_14 : decode tX12_draws.1.2.1 14 = .ok (.iload_n 2, 1) := by decide +kernel
theorem rd_d_X12_draws_15 : decode tX12_draws.1.2.1 15 = .ok (.iastore, 1) := by decide +kernel
theorem rd_d_X12_draws_16 : decode tX12_draws.1.2.1 16 = .ok (.aload_n 0, 1) := by decide +kernel
theorem rd_d_X12_draws_17 : decode tX12_draws.1.2.1 17 = .ok (.iconst 0, 1) := by decide +kernel
theorem rd_d_X12_draws_18 : decode tX12_draws.1.2.1 18 = .ok (.putfield 347, 3) := by decide +kernel
theorem rd_k_X12_draws_18 : ex_lk ex_mt tX12_draws 18 (.putfield 347) [12, 33, 0, 458800] = true := by decide +kernel
theorem rd_d_X12_draws_21 : decode tX12_draws.1.2.1 21 = .ok (.aload_n 0, 1) := by decide +kernel
theorem rd_d_X12_draws_22 : decode tX12_draws.1.2.1 22 = .ok (.iconst 0, 1) := by decide +kernel
theorem rd_d_X12_draws_23 : decode tX12_draws.1.2.1 23 = .ok (.putfield 350, 3) := by decide +kernel
theorem rd_k_X12_draws_23 : ex_lk ex_mt tX12_draws 23 (.putfield 350) [12, 34, 0, 458801] = true := by decide +kernel
theorem rd_d_X12_draws_26 : decode tX12_draws.1.2.1 26 = .ok (.aload_n 0, 1) := by decide +kernel
theorem rd_d_X12_draws_27 : decode tX12_draws.1.2.1 27 = .ok (.invokevirtual 326, 3) := by decide +kernel
theorem rd_k_X12_draws_27 : ex_lk ex_mt tX12_draws 27 (.invokevirtual 326) [0, 80, 524486] = true := by decide +kernel
theorem rd_d_X12_draws_30 : decode tX12_draws.1.2.1 30 = .ok (.iconst 0, 1) := by decide +kernel
theorem rd_d_X12_draws_31 : decode tX12_draws.1.2.1 31 = .ok (.istore 4, 2) := by decide +kernel
theorem rd_d_X12_draws_33 : decode tX12_draws.1.2.1 33 = .ok (.iload 4, 2) := by decide +kernel
theorem rd_d_X12_draws_35 : decode tX12_draws.1.2.1 35 = .ok (.iload_n 1, 1) := by decide +kernel
theorem rd_d_X12_draws_36 : decode tX12_draws.1.2.1 36 = .ok (.if_icmp .ge 150, 3) := by decide +kernel
theorem rd_d_X12_draws_39 : decode tX12_draws.1.2.1 39 = .ok (.aload_n 0, 1) := by decide +kernel
theorem rd_d_X12_draws_40 : decode tX12_draws.1.2.1 40 = .ok (.aload_n 0, 1) := by decide +kernel
theorem rd_d_X12_draws_41 : decode tX12_draws.1.2.1 41 = .ok (.iconst 0, 1) := by decide +kernel
theorem rd_d_X12_draws_42 : decode tX12_draws.1.2.1 42 = .ok (.invokevirtual 276, 3) := by decide +kernel
theorem rd_k_X12_draws_42 : ex_lk ex_mt tX12_draws 42 (.invokevirtual 276) [0, 172, 524429] = true := by decide +kernel
theorem rd_d_X12_draws_45 : decode tX12_draws.1.2.1 45 = .ok (.invokevirtual 231, 3) := by decide +kernel
theorem rd_k_X12_draws_45 : ex_lk ex_mt tX12_draws 45 (.invokevirtual 231) [0, 98, 524362] = true := by decide +kernel
theorem rd_d_X12_draws_48 : decode tX12_draws.1.2.1 48 = .ok (.istore 5, 2) := by decide +kernel
theorem rd_d_X12_draws_50 : decode tX12_draws.1.2.1 50 = .ok (.iconst 0, 1) := by decide +kernel
theorem rd_d_X12_draws_51 : decode tX12_draws.1.2.1 51 = .ok (.istore 6, 2) := by decide +kernel
theorem rd_d_X12_draws_81 : decode tX12_draws.1.2.1 81 = .ok (.iconst 0, 1) := by decide +kernel
theorem rd_d_X12_draws_82 : decode tX12_draws.1.2.1 82 = .ok (.istore 7, 2) := by decide +kernel
theorem rd_d_X12_draws_84 : decode tX12_draws.1.2.1 84 = .ok (.iconst 0, 1) := by decide +kernel
theorem rd_d_X12_draws_85 : decode tX12_draws.1.2.1 85 = .ok (.istore 8, 2) := by decide +kernel
theorem rd_d_X12_draws_156 : decode tX12_draws.1.2.1 156 = .ok (.aload_n 0, 1) := by decide +kernel
theorem rd_d_X12_draws_157 : decode tX12_draws.1.2.1 157 = .ok (.dup, 1) := by decide +kernel
theorem rd_d_X12_draws_158 : decode tX12_draws.1.2.1 158 = .ok (.getfield 347, 3) := by decide +kernel
theorem rd_k_X12_draws_158 : ex_lk ex_mt tX12_draws 158 (.getfield 347) [12, 33, 0, 458800] = true := by decide +kernel
theorem rd_d_X12_draws_161 : decode tX12_draws.1.2.1 161 = .ok (.iload 7, 2) := by decide +kernel
theorem rd_d_X12_draws_163 : decode tX12_draws.1.2.1 163 = .ok (.iadd, 1) := by decide +kernel
theorem rd_d_X12_draws_164 : decode tX12_draws.1.2.1 164 = .ok (.putfield 347, 3) := by decide +kernel
theorem rd_k_X12_draws_164 : ex_lk ex_mt tX12_draws 164 (.putfield 347) [12, 33, 0, 458800] = true := by decide +kernel
theorem rd_d_X12_draws_167 : decode tX12_draws.1.2.1 167 = .ok (.aload_n 0, 1) := by decide +kernel
theorem rd_d_X12_draws_168 : decode tX12_draws.1.2.1 168 = .ok (.aload_n 0, 1) := by decide +kernel
theorem rd_d_X12_draws_169 : decode tX12_draws.1.2.1 169 = .ok (.getfield 350, 3) := by decide +kernel
theorem rd_k_X12_draws_169 : ex_lk ex_mt tX12_draws 169 (.getfield 350) [12, 34, 0, 458801] = true := by decide +kernel
theorem rd_d_X12_draws_172 : decode tX12_draws.1.2.1 172 = .ok (.iload 7, 2) := by decide +kernel
theorem rd_d_X12_draws_174 : decode tX12_draws.1.2.1 174 = .ok (.invokestatic 201, 3) := by decide +kernel
theorem rd_k_X12_draws_174 : ex_lk ex_mt tX12_draws 174 (.invokestatic 201) [0, 111, 524303] = true := by decide +kernel
theorem rd_d_X12_draws_177 : decode tX12_draws.1.2.1 177 = .ok (.putfield 350, 3) := by decide +kernel
theorem rd_k_X12_draws_177 : ex_lk ex_mt tX12_draws 177 (.putfield 350) [12, 34, 0, 458801] = true := by decide +kernel
theorem rd_d_X12_draws_180 : decode tX12_draws.1.2.1 180 = .ok (.iinc 4 1, 3) := by decide +kernel
theorem rd_d_X12_draws_183 : decode tX12_draws.1.2.1 183 = .ok (.goto (-150), 3) := by decide +kernel
theorem rd_d_X12_draws_186 : decode tX12_draws.1.2.1 186 = .ok (.aload_n 0, 1) := by decide +kernel
theorem rd_d_X12_draws_187 : decode tX12_draws.1.2.1 187 = .ok (.getfield 33, 3) := by decide +kernel
theorem rd_k_X12_draws_187 : ex_lk ex_mt tX12_draws 187 (.getfield 33) [12, 6, 2, 458773] = true := by decide +kernel
theorem rd_d_X12_draws_190 : decode tX12_draws.1.2.1 190 = .ok (.bipush 75, 2) := by decide +kernel
theorem rd_d_X12_draws_192 : decode tX12_draws.1.2.1 192 = .ok (.iload_n 3, 1) := by decide +kernel
theorem rd_d_X12_draws_193 : decode tX12_draws.1.2.1 193 = .ok (.iastore, 1) := by decide +kernel
theorem rd_d_X12_draws_194 : decode tX12_draws.1.2.1 194 = .ok (.return_, 1) := by decide +kernel
theorem rd_d_X12_drawn_0 : decode tX12_drawn.1.2.1 0 = .ok (.aload_n 0, 1) := by decide +kernel
theorem rd_d_X12_drawn_1 : decode tX12_drawn.1.2.1 1 = .ok (.iconst 0, 1) := by decide +kernel
theorem rd_d_X12_drawn_2 : decode tX12_drawn.1.2.1 2 = .ok (.putfield 1, 3) := by decide +kernel
theorem rd_k_X12_drawn_2 : ex_lk ex_mt tX12_drawn 2 (.putfield 1) [12, 0, 0, 458767] = true := by decide +kernel
theorem rd_d_X12_drawn_5 : decode tX12_drawn.1.2.1 5 = .ok (.iload_n 1, 1) := by decide +kernel
theorem rd_d_X12_drawn_6 : decode tX12_drawn.1.2.1 6 = .ok (.iconst 1, 1) := by decide +kernel
theorem rd_d_X12_drawn_7 : decode tX12_drawn.1.2.1 7 = .ok (.bipush 60, 2) := by decide +kernel
theorem rd_d_X12_drawn_9 : decode tX12_drawn.1.2.1 9 = .ok (.invokestatic 134, 3) := by decide +kernel
theorem rd_k_X12_drawn_9 : ex_lk ex_mt tX12_drawn 9 (.invokestatic 134) [0, 119, 458953] = true := by decide +kernel
theorem rd_d_X12_drawn_12 : decode tX12_drawn.1.2.1 12 = .ok (.ifCond .eq 12, 3) := by decide +kernel
theorem rd_d_X12_drawn_15 : decode tX12_drawn.1.2.1 15 = .ok (.aload_n 0, 1) := by decide +kernel
theorem rd_d_X12_drawn_16 : decode tX12_drawn.1.2.1 16 = .ok (.getfield 33, 3) := by decide +kernel
theorem rd_k_X12_drawn_16 : ex_lk ex_mt tX12_drawn 16 (.getfield 33) [12, 6, 2, 458773] = true := by decide +kernel
theorem rd_d_X12_drawn_19 : decode tX12_drawn.1.2.1 19 = .ok (.iconst 0, 1) := by decide +kernel
theorem rd_d_X12_drawn_20 : decode tX12_drawn.1.2.1 20 = .ok (.iaload, 1) := by decide +kernel
theorem rd_d_X12_drawn_21 : decode tX12_drawn.1.2.1 21 = .ok (.ifCond .ne 5, 3) := by decide +kernel
theorem rd_d_X12_drawn_24 : decode tX12_drawn.1.2.1 24 = .ok (.iconst (-1), 1) := by decide +kernel
theorem rd_d_X12_drawn_25 : decode tX12_drawn.1.2.1 25 = .ok (.ireturn, 1) := by decide +kernel
theorem rd_d_X12_drawn_26 : decode tX12_drawn.1.2.1 26 = .ok (.aload_n 0, 1) := by decide +kernel
theorem rd_d_X12_drawn_27 : decode tX12_drawn.1.2.1 27 = .ok (.iload_n 1, 1) := by decide +kernel
theorem rd_d_X12_drawn_28 : decode tX12_drawn.1.2.1 28 = .ok (.iload_n 2, 1) := by decide +kernel
theorem rd_d_X12_drawn_29 : decode tX12_drawn.1.2.1 29 = .ok (.invokevirtual 356, 3) := by decide +kernel
theorem rd_k_X12_drawn_29 : ex_lk ex_mt tX12_drawn 29 (.invokevirtual 356) [0, 100, 589870] = true := by decide +kernel
theorem rd_d_X12_drawn_32 : decode tX12_drawn.1.2.1 32 = .ok (.aload_n 0, 1) := by decide +kernel
theorem rd_d_X12_drawn_33 : decode tX12_drawn.1.2.1 33 = .ok (.getfield 347, 3) := by decide +kernel
theorem rd_k_X12_drawn_33 : ex_lk ex_mt tX12_drawn 33 (.getfield 347) [12, 33, 0, 458800] = true := by decide +kernel
theorem rd_d_X12_drawn_36 : decode tX12_drawn.1.2.1 36 = .ok (.ireturn, 1) := by decide +kernel
theorem rd_d_X12_luckiest_0 : decode tX12_luckiest.1.2.1 0 = .ok (.aload_n 0, 1) := by decide +kernel
theorem rd_d_X12_luckiest_1 : decode tX12_luckiest.1.2.1 1 = .ok (.iconst 0, 1) := by decide +kernel
theorem rd_d_X12_luckiest_2 : decode tX12_luckiest.1.2.1 2 = .ok (.putfield 1, 3) := by decide +kernel
theorem rd_k_X12_luckiest_2 : ex_lk ex_mt tX12_luckiest 2 (.putfield 1) [12, 0, 0, 458767] = true := by decide +kernel
theorem rd_d_X12_luckiest_5 : decode tX12_luckiest.1.2.1 5 = .ok (.iload_n 1, 1) := by decide +kernel
theorem rd_d_X12_luckiest_6 : decode tX12_luckiest.1.2.1 6 = .ok (.iconst 1, 1) := by decide +kernel
theorem rd_d_X12_luckiest_7 : decode tX12_luckiest.1.2.1 7 = .ok (.bipush 60, 2) := by decide +kernel
theorem rd_d_X12_luckiest_9 : decode tX12_luckiest.1.2.1 9 = .ok (.invokestatic 134, 3) := by decide +kernel
theorem rd_k_X12_luckiest_9 : ex_lk ex_mt tX12_luckiest 9 (.invokestatic 134) [0, 119, 458953] = true := by decide +kernel
theorem rd_d_X12_luckiest_12 : decode tX12_luckiest.1.2.1 12 = .ok (.ifCond .eq 12, 3) := by decide +kernel
theorem rd_d_X12_luckiest_15 : decode tX12_luckiest.1.2.1 15 = .ok (.aload_n 0, 1) := by decide +kernel
theorem rd_d_X12_luckiest_16 : decode tX12_luckiest.1.2.1 16 = .ok (.getfield 33, 3) := by decide +kernel
theorem rd_k_X12_luckiest_16 : ex_lk ex_mt tX12_luckiest 16 (.getfield 33) [12, 6, 2, 458773] = true := by decide +kernel
theorem rd_d_X12_luckiest_19 : decode tX12_luckiest.1.2.1 19 = .ok (.iconst 0, 1) := by decide +kernel
theorem rd_d_X12_luckiest_20 : decode tX12_luckiest.1.2.1 20 = .ok (.iaload, 1) := by decide +kernel
theorem rd_d_X12_luckiest_21 : decode tX12_luckiest.1.2.1 21 = .ok (.ifCond .ne 5, 3) := by decide +kernel
theorem rd_d_X12_luckiest_24 : decode tX12_luckiest.1.2.1 24 = .ok (.iconst (-1), 1) := by decide +kernel
theorem rd_d_X12_luckiest_25 : decode tX12_luckiest.1.2.1 25 = .ok (.ireturn, 1) := by decide +kernel
theorem rd_d_X12_luckiest_26 : decode tX12_luckiest.1.2.1 26 = .ok (.aload_n 0, 1) := by decide +kernel
theorem rd_d_X12_luckiest_27 : decode tX12_luckiest.1.2.1 27 = .ok (.iload_n 1, 1) := by decide +kernel
theorem rd_d_X12_luckiest_28 : decode tX12_luckiest.1.2.1 28 = .ok (.iload_n 2, 1) := by decide +kernel
theorem rd_d_X12_luckiest_29 : decode tX12_luckiest.1.2.1 29 = .ok (.invokevirtual 356, 3) := by decide +kernel
theorem rd_k_X12_luckiest_29 : ex_lk ex_mt tX12_luckiest 29 (.invokevirtual 356) [0, 100, 589870] = true := by decide +kernel
theorem rd_d_X12_luckiest_32 : decode tX12_luckiest.1.2.1 32 = .ok (.aload_n 0, 1) := by decide +kernel
theorem rd_d_X12_luckiest_33 : decode tX12_luckiest.1.2.1 33 = .ok (.getfield 350, 3) := by decide +kernel
theorem rd_k_X12_luckiest_33 : ex_lk ex_mt tX12_luckiest 33 (.getfield 350) [12, 34, 0, 458801] = true := by decide +kernel
theorem rd_d_X12_luckiest_36 : decode tX12_luckiest.1.2.1 36 = .ok (.ireturn, 1) := by decide +kernel
section AXX
variable {g : am_C} {L : Nat} {xs : Nat → Int32}
theorem ax_drO (G : sx_G0 g L xs z9 hd_C ex_mt) {s : Nat → Int32} (b : pn_B s) (b3 : pl_B3 s) (b5 : pl_B5 s) (b6 : pl_B6 s) {n x0 kept : Int32} {N : Nat} (en : n.toInt = (N : Int)) : ∀ (f j : Nat) (i : Int32) (σ : am_S), ax_S σ → pc_E s (σ.2.1 120) → pb_M (pz_best s) σ.2.1 → i.toInt = (j : Int) → j + f = N → N ≤ 60 → σ.2.1 118 33 = (pd_out s x0 j).1 → σ.2.1 118 34 = (pd_out s x0 j).2.1 → σ.2.1 120 75 = (pd_out s x0 j).2.2 → am_K g 11 tX12_draws.1 0 0 33 [(4, .int i), (3, .int kept), (0, .ref 118), (1, .int n), (2, .int x0)] [] σ (fun r σ' => r = some none ∧ ax_S σ' ∧ σ'.2.1 118 33 = (pd_out s x0 N).1 ∧ σ'.2.1 118 34 = (pd_out s x0 N).2.1) := by
  have hsd := pd_sd b (fun k hk => (b5 k hk).1)
  have hsp := sd_p b.1 b.2.1 b3
  intro f
  induction f with
  | zero =>
    intro j i σ hS he hL ej hj h60 t1 t2 t0
    refine kr_iload 0 rd_d_X12_draws_33 rfl ?_
    refine kr_iload_n 3 rd_d_X12_draws_35 rfl ?_
    refine kr_icmp_ge (tgt := 186) rd_d_X12_draws_36 rfl (fun h1 => ?_) (fun h1 => ?_)
    · refine kr_aload_n 2 rd_d_X12_draws_186 rfl ?_
      refine kr_getf G.1 (rd_FL rd_k_X12_draws_187).1 rd_d_X12_draws_187 (hS.1 118 (.inl 12) rfl) (v := .ref 120) (by unfold am_fa; rw [(rd_FL rd_k_X12_draws_187).2]; exact hS.2 118 6 120 rfl) ?_
      refine kr_bipush (v := 75) rd_d_X12_draws_190 (by decide) ?_
      refine kr_iload_n 1 rd_d_X12_draws_192 rfl ?_
      refine ax_astW G hS rd_d_X12_draws_193 (n := 277) (hS.1 120 (.inr (.int, 277)) rfl) (ix := 75) (by decide) (by decide) ?_
      intro τ1 hT1 hw1 hf1
      have e : j = N := by omega
      subst e
      exact kr_return rd_d_X12_draws_194 rfl ⟨rfl, hT1, (hf1 118 33 (fun q => absurd q.1 (by decide))).trans t1, (hf1 118 34 (fun q => absurd q.1 (by decide))).trans t2⟩
    · exact absurd (Int32.le_iff_toInt_le.mpr (by omega)) h1
  | succ f ih =>
    intro j i σ hS he hL ej hj h60 t1 t2 t0
    obtain ⟨x, hx⟩ : ∃ x, ax_f_nxs (pd_out s x0 j).2.2 = x := ⟨_, rfl⟩
    obtain ⟨S, hSv⟩ : ∃ S, pd_S s (ax_f_dof x (ax_f_sd s 0)) = S := ⟨_, rfl⟩
    have hout : pd_out s x0 (j + 1) = ((pd_out s x0 j).1 + (pd_in s S x (pz_best s).length).1, ax_f_max (pd_out s x0 j).2.1 (pd_in s S x (pz_best s).length).1, (pd_in s S x (pz_best s).length).2) := by rw [← hSv, ← hx]; rfl
    have hb : pl_B (σ.2.1 120) := (pn_Bc he b).1
    obtain ⟨R, hR, hRv⟩ := dof_b (x := x) (n := ax_f_sd s 0) (N := (ax_f_sd s 0).toInt.toNat) (by omega) (by omega)
    refine kr_iload 0 rd_d_X12_draws_33 rfl ?_
    refine kr_iload_n 3 rd_d_X12_draws_35 rfl ?_
    refine kr_icmp_ge (tgt := 186) rd_d_X12_draws_36 rfl (fun h21 => ?_) (fun h21 => ?_)
    · have := Int32.le_iff_toInt_le.mp h21
      omega
    · refine kr_aload_n 2 rd_d_X12_draws_39 rfl ?_
      refine kr_aload_n 2 rd_d_X12_draws_40 rfl ?_
      refine kr_iconst (v := 0) rd_d_X12_draws_41 (by decide) ?_
      refine rd_call G (T2 := tX12_standing) rfl rd_d_X12_draws_42 rd_k_X12_draws_42 rfl (hS.1 118 (.inl 12) rfl) (as := [.int 0]) (st := [.ref 118]) rfl (Nat.le_of_ble_eq_true rfl) rfl (Nat.le_of_ble_eq_true rfl) (d1 := 3) (by decide) (fun _ h => by cases h.1) (ax_sd G hS 0 hb) ?_
      intro v0 σ0 ⟨hv0, hs0⟩
      cases hv0
      rw [hs0, sd_c he b.1]
      refine rd_call G (T2 := tX12_draw) rfl rd_d_X12_draws_45 rd_k_X12_draws_45 rfl (hS.1 118 (.inl 12) rfl) (as := [.int (ax_f_sd s 0)]) (st := []) rfl (Nat.le_of_ble_eq_true rfl) rfl (Nat.le_of_ble_eq_true rfl) (d1 := 1) (by decide) (fun _ h => by cases h.1) (ax_drM G hS (n := ax_f_sd s 0) (by omega)) ?_
      rw [t0, hx]
      intro v1 σ1 ⟨hv1, hS1, hw1, hf1⟩
      cases hv1
      have he1 : pc_E s (σ1.2.1 120) := fun q hq => (hf1 120 q (by omega)).trans (he q hq)
      have hL1 : pb_M (pz_best s) σ1.2.1 := ⟨by rw [hf1 118 28 (by omega)]; exact hL.1, fun q h => by rw [hf1 128 q (by omega), hf1 127 q (by omega)]; exact hL.2 q h⟩
      refine kr_istore (lv' := [(5, .int (ax_f_dof x (ax_f_sd s 0))), (4, .int i), (3, .int kept), (0, .ref 118), (1, .int n), (2, .int x0)]) rd_d_X12_draws_48 (by decide) rfl ?_
      refine kr_iconst (v := 0) rd_d_X12_draws_50 (by decide) ?_
      refine kr_istore (lv' := [(6, .int 0), (5, .int (ax_f_dof x (ax_f_sd s 0))), (4, .int i), (3, .int kept), (0, .ref 118), (1, .int n), (2, .int x0)]) rd_d_X12_draws_51 (by decide) rfl ?_
      refine ax_dwL G b hS1 he1 (V := (ax_f_dof x (ax_f_sd s 0)).toInt) (by omega) (pz_sN s) 0 (ax_f_dof x (ax_f_sd s 0)) 0 rfl (by omega) (by show _ = _ - (0 : Int); omega) (by show (0 : Int) ≤ _; omega) ?_
      intro k2 v2 ek2 hk2
      refine kr_iconst (v := 0) rd_d_X12_draws_81 (by decide) ?_
      refine kr_istore (lv' := [(7, .int 0), (6, .int k2), (5, .int v2), (4, .int i), (3, .int kept), (0, .ref 118), (1, .int n), (2, .int x0)]) rd_d_X12_draws_82 (by decide) rfl ?_
      refine kr_iconst (v := 0) rd_d_X12_draws_84 (by decide) ?_
      refine kr_istore (lv' := [(8, .int 0), (7, .int 0), (6, .int k2), (5, .int v2), (4, .int i), (3, .int kept), (0, .ref 118), (1, .int n), (2, .int x0)]) rd_d_X12_draws_85 (by decide) rfl ?_
      refine ax_drI G b b6 (S := S) (x := x) ek2 hk2 hSv (pz_best s).length 0 0 0 σ1 hS1 he1 hL1 rfl (by omega) rfl hw1 ?_
      intro sd2 σ2 hS2 hf2 hw2
      generalize pd_in s S x (pz_best s).length = Rr at hout hw2 ⊢
      refine kr_aload_n 6 rd_d_X12_draws_156 rfl ?_
      refine kr_dup rd_d_X12_draws_157 rfl ?_
      refine kr_getf G.1 (rd_FL rd_k_X12_draws_158).1 rd_d_X12_draws_158 (hS2.1 118 (.inl 12) rfl) (v := .int (σ2.2.1 118 33)) (by unfold am_fa; rw [(rd_FL rd_k_X12_draws_158).2]; rfl) ?_
      refine kr_iload 1 rd_d_X12_draws_161 rfl ?_
      refine kr_iadd rd_d_X12_draws_163 ?_
      refine ax_putW G hS2 rd_d_X12_draws_164 rd_k_X12_draws_164 (hS2.1 118 (.inl 12) rfl) ?_
      intro τz1 hTz1 hwz1 hfz1
      refine kr_aload_n 6 rd_d_X12_draws_167 rfl ?_
      refine kr_aload_n 6 rd_d_X12_draws_168 rfl ?_
      refine kr_getf G.1 (rd_FL rd_k_X12_draws_169).1 rd_d_X12_draws_169 (hTz1.1 118 (.inl 12) rfl) (v := .int (σ2.2.1 118 34)) (by unfold am_fa; rw [(rd_FL rd_k_X12_draws_169).2]; exact congrArg Value.int (hfz1 118 34 (fun q => absurd q.2 (by decide)))) ?_
      refine kr_iload 1 rd_d_X12_draws_172 rfl ?_
      refine rd_callS G (T2 := tX12_greater) rfl rd_d_X12_draws_174 rd_k_X12_draws_174 rfl rfl (as := [.int (σ2.2.1 118 34), .int Rr.1]) (st := [.ref 118]) rfl (Nat.le_of_ble_eq_true rfl) rfl (Nat.le_of_ble_eq_true rfl) (d1 := 1) (by decide) (fun _ h => by cases h.1) (ax_gr G hTz1 (σ2.2.1 118 34) Rr.1) ?_
      intro v61 σ61 ⟨hv61, hs61⟩
      cases hv61
      rw [hs61]
      refine ax_putW G hTz1 rd_d_X12_draws_177 rd_k_X12_draws_177 (hTz1.1 118 (.inl 12) rfl) ?_
      intro τz2 hTz2 hwz2 hfz2
      refine kr_iinc (v := i + 1) (lv' := [(4, .int (i + 1)), (8, .int sd2), (7, .int Rr.1), (6, .int k2), (5, .int v2), (3, .int kept), (0, .ref 118), (1, .int n), (2, .int x0)]) 4 rd_d_X12_draws_180 rfl rfl (by decide) rfl ?_
      refine kr_goto (tgt := 33) rd_d_X12_draws_183 rfl ?_
      refine kr_sub (lv' := [(4, .int (i + 1)), (3, .int kept), (0, .ref 118), (1, .int n), (2, .int x0)]) (by simp) ?_
      have hF : ∀ a b, ¬ (a = 118 ∧ (b = 33 ∨ b = 34)) → τz2.2.1 a b = σ2.2.1 a b := fun a b q => by rw [hfz2 a b (fun z => q ⟨z.1, by omega⟩), hfz1 a b (fun z => q ⟨z.1, by omega⟩)]
      have he3 : pc_E s (τz2.2.1 120) := fun q hq => by rw [hF 120 q (fun z => absurd z.1 (by decide)), hf2 120 q (by omega)]; exact he1 q hq
      have hL3 : pb_M (pz_best s) τz2.2.1 := ⟨by rw [hF 118 28 (by omega), hf2 118 28 (by omega)]; exact hL1.1, fun q h => by rw [hF 128 q (by omega), hF 127 q (by omega), hf2 128 q (by omega), hf2 127 q (by omega)]; exact hL1.2 q h⟩
      have u1 : σ2.2.1 118 33 = (pd_out s x0 j).1 := by rw [hf2 118 33 (by omega), hf1 118 33 (by omega)]; exact t1
      have u2 : σ2.2.1 118 34 = (pd_out s x0 j).2.1 := by rw [hf2 118 34 (by omega), hf1 118 34 (by omega)]; exact t2
      have c1 : τz2.2.1 118 33 = (pd_out s x0 (j + 1)).1 := (show τz2.2.1 118 33 = (σ2.2.1 118 33) + Rr.1 from (hfz2 118 33 (fun q => absurd q.2 (by decide))).trans (hwz1)).trans (by rw [hout, u1])
      have c2 : τz2.2.1 118 34 = (pd_out s x0 (j + 1)).2.1 := (show τz2.2.1 118 34 = ax_f_gr (σ2.2.1 118 34) Rr.1 from hwz2).trans (by rw [hout, u2, gr_max])
      have c0 : τz2.2.1 120 75 = (pd_out s x0 (j + 1)).2.2 := (show τz2.2.1 120 75 = σ2.2.1 120 75 from (hfz2 120 75 (fun q => absurd q.1 (by decide))).trans (hfz1 120 75 (fun q => absurd q.1 (by decide)))).trans (by rw [hout]; exact hw2)
      exact ih (j + 1) (i + 1) τz2 hTz2 he3 hL3 (ax_inc ej (by omega)) (by omega) h60 c1 c2 c0
theorem ax_drs (G : sx_G0 g L xs z9 hd_C ex_mt) {s : Nat → Int32} (b : pn_B s) (b3 : pl_B3 s) (b5 : pl_B5 s) (b6 : pl_B6 s) {n x0 : Int32} {N : Nat} (en : n.toInt = (N : Int)) (h60 : N ≤ 60) {σ : am_S} (hS : ax_S σ) (hs : σ.2.1 120 = s) : am_K g 11 tX12_draws.1 0 0 0 (lv_args 0 [.ref 118, .int n, .int x0]) [] σ (fun r σ' => r = some none ∧ ax_S σ' ∧ σ'.2.1 118 33 = (pd_out s x0 N).1 ∧ σ'.2.1 118 34 = (pd_out s x0 N).2.1) := by
  refine kr_aload_n 0 rd_d_X12_draws_0 rfl ?_
  refine kr_getf G.1 (rd_FL rd_k_X12_draws_1).1 rd_d_X12_draws_1 (hS.1 118 (.inl 12) rfl) (v := .ref 120) (by unfold am_fa; rw [(rd_FL rd_k_X12_draws_1).2]; exact hS.2 118 6 120 rfl) ?_
  refine kr_bipush (v := 75) rd_d_X12_draws_4 (by decide) ?_
  refine kr_iald G.1 (n := 277) rd_d_X12_draws_6 (hS.1 120 (.inr (.int, 277)) rfl) (hd_in (n := 75) (by decide) (by decide)) ?_
  rw [hd_clamp (n := 75) (by decide)]
  refine kr_istore_n (lv' := [(3, .int (σ.2.1 120 75)), (0, .ref 118), (1, .int n), (2, .int x0)]) rd_d_X12_draws_7 (by decide) rfl ?_
  refine kr_aload_n 1 rd_d_X12_draws_8 rfl ?_
  refine kr_getf G.1 (rd_FL rd_k_X12_draws_9).1 rd_d_X12_draws_9 (hS.1 118 (.inl 12) rfl) (v := .ref 120) (by unfold am_fa; rw [(rd_FL rd_k_X12_draws_9).2]; exact hS.2 118 6 120 rfl) ?_
  refine kr_bipush (v := 75) rd_d_X12_draws_12 (by decide) ?_
  refine kr_iload_n 3 rd_d_X12_draws_14 rfl ?_
  refine ax_astW G hS rd_d_X12_draws_15 (n := 277) (hS.1 120 (.inr (.int, 277)) rfl) (ix := 75) (by decide) (by decide) ?_
  intro τ1 hT1 hw1 hf1
  refine kr_aload_n 1 rd_d_X12_draws_16 rfl ?_
  refine kr_iconst (v := 0) rd_d_X12_draws_17 (by decide) ?_
  refine ax_putW G hT1 rd_d_X12_draws_18 rd_k_X12_draws_18 (hT1.1 118 (.inl 12) rfl) ?_
  intro τ2 hT2 hw2 hf2
  refine kr_aload_n 1 rd_d_X12_draws_21 rfl ?_
  refine kr_iconst (v := 0) rd_d_X12_draws_22 (by decide) ?_
  refine ax_putW G hT2 rd_d_X12_draws_23 rd_k_X12_draws_23 (hT2.1 118 (.inl 12) rfl) ?_
  intro τ3 hT3 hw3 hf3
  refine kr_aload_n 1 rd_d_X12_draws_26 rfl ?_
  have he3 : pc_E s (τ3.2.1 120) := fun q hq => by rw [hf3 120 q (by omega), hf2 120 q (by omega), hf1 120 q (by omega), hs]
  have b63 : pl_B6 (τ3.2.1 120) := by unfold pl_B6; rw [he3 55 (by decide)]; exact b6
  have w0 : τ3.2.1 120 75 = x0 := (hf3 120 75 (fun q => absurd q.1 (by decide))).trans ((hf2 120 75 (fun q => absurd q.1 (by decide))).trans (hw1))
  have w1 : τ3.2.1 118 33 = 0 := (hf3 118 33 (fun q => absurd q.2 (by decide))).trans (hw2)
  have w2 : τ3.2.1 118 34 = 0 := hw3
  refine rd_call G (T2 := tX12_bests) rfl rd_d_X12_draws_27 rd_k_X12_draws_27 rfl (hT3.1 118 (.inl 12) rfl) (as := []) (st := []) rfl (Nat.le_of_ble_eq_true rfl) rfl (Nat.le_of_ble_eq_true rfl) (d1 := 10) (by decide) (fun _ h => by cases h.1) (ax_mb G (pn_Bc he3 b) b63 hT3 rfl) ?_
  rw [(pz_bestc he3 b).1]
  intro v4 σ4 ⟨hv4, hS4, hf4, hM4, _⟩
  cases hv4
  have he4 : pc_E s (σ4.2.1 120) := fun q hq => (hf4 120 q (by decide) (by decide) (by decide) (by decide) (fun z => absurd z.1 (by decide))).trans (he3 q hq)
  refine kr_iconst (v := 0) rd_d_X12_draws_30 (by decide) ?_
  refine kr_istore (lv' := [(4, .int 0), (3, .int (σ.2.1 120 75)), (0, .ref 118), (1, .int n), (2, .int x0)]) rd_d_X12_draws_31 (by decide) rfl ?_
  refine kr_sub (lv' := [(4, .int 0), (3, .int (σ.2.1 120 75)), (0, .ref 118), (1, .int n), (2, .int x0)]) (by simp) ?_
  exact ax_drO G b b3 b5 b6 en N 0 0 σ4 hS4 he4 hM4 rfl (by omega) h60 ((hf4 118 33 (by decide) (by decide) (by decide) (by decide) (by omega)).trans w1) ((hf4 118 34 (by decide) (by decide) (by decide) (by decide) (by omega)).trans w2) ((hf4 120 75 (by decide) (by decide) (by decide) (by decide) (by omega)).trans w0)
theorem ax_drnM (G : sx_G0 g L xs z9 hd_C ex_mt) {s : Nat → Int32} (b : pn_B s) (b3 : pl_B3 s) (b5 : pl_B5 s) (b6 : pl_B6 s) {σ : am_S} (hS : ax_S σ) (hs : σ.2.1 120 = s) (n x0 : Int32) : am_K g 12 tX12_drawn.1 0 0 0 (lv_args 0 [.ref 118, .int n, .int x0]) [] σ (fun r σ' => (∃ z : Int32, r = some (some (.int z)) ∧ ((pz_dcan s n ∧ z = (pd_out s x0 n.toInt.toNat).1) ∨ (¬ pz_dcan s n ∧ z = -1))) ∧ ax_S σ') := by
  have z1 : (1 : Int32).toInt = 1 := rfl
  have z60 : (60 : Int32).toInt = 60 := rfl
  refine ax_thr G hS rd_d_X12_drawn_0 rd_d_X12_drawn_1 rd_d_X12_drawn_2 rd_k_X12_drawn_2 rfl ?_
  intro τ hT hm hm8
  have hsT : τ.2.1 120 = s := (funext fun q => hm 120 q (by decide)).trans hs
  refine kr_iload_n 1 rd_d_X12_drawn_5 rfl ?_
  refine kr_iconst (v := 1) rd_d_X12_drawn_6 (by decide) ?_
  refine kr_bipush (v := 60) rd_d_X12_drawn_7 (by decide) ?_
  refine rd_callS G (T2 := tX12_isIn) rfl rd_d_X12_drawn_9 rd_k_X12_drawn_9 rfl rfl (as := [.int n, .int 1, .int 60]) (st := []) rfl (Nat.le_of_ble_eq_true rfl) rfl (Nat.le_of_ble_eq_true rfl) (d1 := 1) (by decide) (fun _ h => by cases h.1) (ax_isIn G hT n 1 60) ?_
  intro v1 σ1 ⟨hv1, hs1⟩
  cases hv1
  rw [hs1]
  refine kr_if_eq (tgt := 24) rd_d_X12_drawn_12 rfl (fun h2 => ?_) (fun h2 => ?_)
  · refine kr_iconst (v := (-1)) rd_d_X12_drawn_24 (by decide) ?_
    exact kr_ireturn rd_d_X12_drawn_25 (ty := .int) rfl rfl ⟨⟨_, rfl, Or.inr ⟨fun ⟨c1, c2, c3⟩ => by have := pz_out h2; omega, rfl⟩⟩, hT⟩
  · refine kr_aload_n 0 rd_d_X12_drawn_15 rfl ?_
    refine kr_getf G.1 (rd_FL rd_k_X12_drawn_16).1 rd_d_X12_drawn_16 (hT.1 118 (.inl 12) rfl) (v := .ref 120) (by unfold am_fa; rw [(rd_FL rd_k_X12_drawn_16).2]; exact hT.2 118 6 120 rfl) ?_
    refine kr_iconst (v := 0) rd_d_X12_drawn_19 (by decide) ?_
    refine kr_iald G.1 (n := 277) rd_d_X12_drawn_20 (hT.1 120 (.inr (.int, 277)) rfl) (hd_in (n := 0) (by decide) (by decide)) ?_
    rw [hd_clamp (n := 0) (by decide)]
    refine kr_if_ne (tgt := 26) rd_d_X12_drawn_21 rfl (fun h3 => ?_) (fun h3 => ?_)
    · refine kr_aload_n 0 rd_d_X12_drawn_26 rfl ?_
      refine kr_iload_n 1 rd_d_X12_drawn_27 rfl ?_
      refine kr_iload_n 2 rd_d_X12_drawn_28 rfl ?_
      have c12 := pz_in h2
      have hc : pz_dcan s n := ⟨by omega, by omega, by rw [← hsT]; exact h3⟩
      refine rd_call G (T2 := tX12_draws) rfl rd_d_X12_drawn_29 rd_k_X12_drawn_29 rfl (hT.1 118 (.inl 12) rfl) (as := [.int n, .int x0]) (st := []) rfl (Nat.le_of_ble_eq_true rfl) rfl (Nat.le_of_ble_eq_true rfl) (d1 := 11) (by decide) (fun _ h => by cases h.1) (ax_drs G b b3 b5 b6 (N := n.toInt.toNat) (by omega) (by omega) hT hsT) ?_
      intro v1 σ1 ⟨hv1, hS1, a1, a2⟩
      cases hv1
      refine kr_aload_n 0 rd_d_X12_drawn_32 rfl ?_
      refine kr_getf G.1 (rd_FL rd_k_X12_drawn_33).1 rd_d_X12_drawn_33 (hS1.1 118 (.inl 12) rfl) (v := .int (σ1.2.1 118 33)) (by unfold am_fa; rw [(rd_FL rd_k_X12_drawn_33).2]; rfl) ?_
      exact kr_ireturn rd_d_X12_drawn_36 (ty := .int) rfl rfl ⟨⟨_, rfl, Or.inl ⟨hc, a1⟩⟩, hS1⟩
    · refine kr_iconst (v := (-1)) rd_d_X12_drawn_24 (by decide) ?_
      exact kr_ireturn rd_d_X12_drawn_25 (ty := .int) rfl rfl ⟨⟨_, rfl, Or.inr ⟨fun ⟨c1, c2, c3⟩ => c3 (by rw [← hsT]; exact h3), rfl⟩⟩, hT⟩
theorem ax_lukM (G : sx_G0 g L xs z9 hd_C ex_mt) {s : Nat → Int32} (b : pn_B s) (b3 : pl_B3 s) (b5 : pl_B5 s) (b6 : pl_B6 s) {σ : am_S} (hS : ax_S σ) (hs : σ.2.1 120 = s) (n x0 : Int32) : am_K g 12 tX12_luckiest.1 0 0 0 (lv_args 0 [.ref 118, .int n, .int x0]) [] σ (fun r σ' => (∃ z : Int32, r = some (some (.int z)) ∧ ((pz_dcan s n ∧ z = (pd_out s x0 n.toInt.toNat).2.1) ∨ (¬ pz_dcan s n ∧ z = -1))) ∧ ax_S σ') := by
  have z1 : (1 : Int32).toInt = 1 := rfl
  have z60 : (60 : Int32).toInt = 60 := rfl
  refine ax_thr G hS rd_d_X12_luckiest_0 rd_d_X12_luckiest_1 rd_d_X12_luckiest_2 rd_k_X12_luckiest_2 rfl ?_
  intro τ hT hm hm8
  have hsT : τ.2.1 120 = s := (funext fun q => hm 120 q (by decide)).trans hs
  refine kr_iload_n 1 rd_d_X12_luckiest_5 rfl ?_
  refine kr_iconst (v := 1) rd_d_X12_luckiest_6 (by decide) ?_
  refine kr_bipush (v := 60) rd_d_X12_luckiest_7 (by decide) ?_
  refine rd_callS G (T2 := tX12_isIn) rfl rd_d_X12_luckiest_9 rd_k_X12_luckiest_9 rfl rfl (as := [.int n, .int 1, .int 60]) (st := []) rfl (Nat.le_of_ble_eq_true rfl) rfl (Nat.le_of_ble_eq_true rfl) (d1 := 1) (by decide) (fun _ h => by cases h.1) (ax_isIn G hT n 1 60) ?_
  intro v1 σ1 ⟨hv1, hs1⟩
  cases hv1
  rw [hs1]
  refine kr_if_eq (tgt := 24) rd_d_X12_luckiest_12 rfl (fun h2 => ?_) (fun h2 => ?_)
  · refine kr_iconst (v := (-1)) rd_d_X12_luckiest_24 (by decide) ?_
    exact kr_ireturn rd_d_X12_luckiest_25 (ty := .int) rfl rfl ⟨⟨_, rfl, Or.inr ⟨fun ⟨c1, c2, c3⟩ => by have := pz_out h2; omega, rfl⟩⟩, hT⟩
  · refine kr_aload_n 0 rd_d_X12_luckiest_15 rfl ?_
    refine kr_getf G.1 (rd_FL rd_k_X12_luckiest_16).1 rd_d_X12_luckiest_16 (hT.1 118 (.inl 12) rfl) (v := .ref 120) (by unfold am_fa; rw [(rd_FL rd_k_X12_luckiest_16).2]; exact hT.2 118 6 120 rfl) ?_
    refine kr_iconst (v := 0) rd_d_X12_luckiest_19 (by decide) ?_
    refine kr_iald G.1 (n := 277) rd_d_X12_luckiest_20 (hT.1 120 (.inr (.int, 277)) rfl) (hd_in (n := 0) (by decide) (by decide)) ?_
    rw [hd_clamp (n := 0) (by decide)]
    refine kr_if_ne (tgt := 26) rd_d_X12_luckiest_21 rfl (fun h3 => ?_) (fun h3 => ?_)
    · refine kr_aload_n 0 rd_d_X12_luckiest_26 rfl ?_
      refine kr_iload_n 1 rd_d_X12_luckiest_27 rfl ?_
      refine kr_iload_n 2 rd_d_X12_luckiest_28 rfl ?_
      have c12 := pz_in h2
      have hc : pz_dcan s n := ⟨by omega, by omega, by rw [← hsT]; exact h3⟩
      refine rd_call G (T2 := tX12_draws) rfl rd_d_X12_luckiest_29 rd_k_X12_luckiest_29 rfl (hT.1 118 (.inl 12) rfl) (as := [.int n, .int x0]) (st := []) rfl (Nat.le_of_ble_eq_true rfl) rfl (Nat.le_of_ble_eq_true rfl) (d1 := 11) (by decide) (fun _ h => by cases h.1) (ax_drs G b b3 b5 b6 (N := n.toInt.toNat) (by omega) (by omega) hT hsT) ?_
      intro v1 σ1 ⟨hv1, hS1, a1, a2⟩
      cases hv1
      refine kr_aload_n 0 rd_d_X12_luckiest_32 rfl ?_
      refine kr_getf G.1 (rd_FL rd_k_X12_luckiest_33).1 rd_d_X12_luckiest_33 (hS1.1 118 (.inl 12) rfl) (v := .int (σ1.2.1 118 34)) (by unfold am_fa; rw [(rd_FL rd_k_X12_luckiest_33).2]; rfl) ?_
      exact kr_ireturn rd_d_X12_luckiest_36 (ty := .int) rfl rfl ⟨⟨_, rfl, Or.inl ⟨hc, a2⟩⟩, hS1⟩
    · refine kr_iconst (v := (-1)) rd_d_X12_luckiest_24 (by decide) ?_
      exact kr_ireturn rd_d_X12_luckiest_25 (ty := .int) rfl rfl ⟨⟨_, rfl, Or.inr ⟨fun ⟨c1, c2, c3⟩ => c3 (by rw [← hsT]; exact h3), rfl⟩⟩, hT⟩
end AXX
