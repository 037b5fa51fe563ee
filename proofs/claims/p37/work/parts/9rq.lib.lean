/-! exact answers, further (rows written by a program) -/
theorem rd_d_X0_live_0 : decode tX0_live.1.2.1 0 = .ok (.aload_n 0, 1) := by decide +kernel
theorem rd_d_X0_live_1 : decode tX0_live.1.2.1 1 = .ok (.iload_n 2, 1) := by decide +kernel
theorem rd_d_X0_live_2 : decode tX0_live.1.2.1 2 = .ok (.putfield 9, 3) := by decide +kernel
theorem rd_k_X0_live_2 : ex_lk ex_mt tX0_live 2 (.putfield 9) [0, 0, 0, 131155] = true := by decide +kernel
theorem rd_d_X0_live_5 : decode tX0_live.1.2.1 5 = .ok (.aload_n 0, 1) := by decide +kernel
theorem rd_d_X0_live_6 : decode tX0_live.1.2.1 6 = .ok (.iconst 0, 1) := by decide +kernel
theorem rd_d_X0_live_7 : decode tX0_live.1.2.1 7 = .ok (.putfield 15, 3) := by decide +kernel
theorem rd_k_X0_live_7 : ex_lk ex_mt tX0_live 7 (.putfield 15) [0, 1, 0, 131156] = true := by decide +kernel
theorem rd_d_X0_live_10 : decode tX0_live.1.2.1 10 = .ok (.aload_n 0, 1) := by decide +kernel
theorem rd_d_X0_live_11 : decode tX0_live.1.2.1 11 = .ok (.iconst 0, 1) := by decide +kernel
theorem rd_d_X0_live_12 : decode tX0_live.1.2.1 12 = .ok (.putfield 18, 3) := by decide +kernel
theorem rd_k_X0_live_12 : ex_lk ex_mt tX0_live 12 (.putfield 18) [0, 2, 0, 131158] = true := by decide +kernel
theorem rd_d_X0_live_15 : decode tX0_live.1.2.1 15 = .ok (.iconst 0, 1) := by decide +kernel
theorem rd_d_X0_live_16 : decode tX0_live.1.2.1 16 = .ok (.istore 5, 2) := by decide +kernel
theorem rd_d_X0_live_18 : decode tX0_live.1.2.1 18 = .ok (.iload 5, 2) := by decide +kernel
theorem rd_d_X0_live_20 : decode tX0_live.1.2.1 20 = .ok (.iload_n 1, 1) := by decide +kernel
theorem rd_d_X0_live_21 : decode tX0_live.1.2.1 21 = .ok (.if_icmp .ge 112, 3) := by decide +kernel
theorem rd_d_X0_live_24 : decode tX0_live.1.2.1 24 = .ok (.aload_n 3, 1) := by decide +kernel
theorem rd_d_X0_live_25 : decode tX0_live.1.2.1 25 = .ok (.aload_n 0, 1) := by decide +kernel
theorem rd_d_X0_live_26 : decode tX0_live.1.2.1 26 = .ok (.aload_n 3, 1) := by decide +kernel
theorem rd_d_X0_live_27 : decode tX0_live.1.2.1 27 = .ok (.iconst 0, 1) := by decide +kernel
theorem rd_d_X0_live_28 : decode tX0_live.1.2.1 28 = .ok (.invokevirtual 21, 3) := by decide +kernel
theorem rd_k_X0_live_28 : ex_lk ex_mt tX0_live 28 (.invokevirtual 21) [0, 314, 327827] = true := by decide +kernel
theorem rd_d_X0_live_31 : decode tX0_live.1.2.1 31 = .ok (.invokevirtual 27, 3) := by decide +kernel
theorem rd_k_X0_live_31 : ex_lk ex_mt tX0_live 31 (.invokevirtual 27) [0, 11, 327828] = true := by decide +kernel
theorem rd_d_X0_live_34 : decode tX0_live.1.2.1 34 = .ok (.invokevirtual 30, 3) := by decide +kernel
theorem rd_k_X0_live_34 : ex_lk ex_mt tX0_live 34 (.invokevirtual 30) [0, 307, 327834] = true := by decide +kernel
theorem rd_d_X0_live_37 : decode tX0_live.1.2.1 37 = .ok (.istore 6, 2) := by decide +kernel
theorem rd_d_X0_live_39 : decode tX0_live.1.2.1 39 = .ok (.iconst 0, 1) := by decide +kernel
theorem rd_d_X0_live_40 : decode tX0_live.1.2.1 40 = .ok (.istore 7, 2) := by decide +kernel
theorem rd_d_X0_live_42 : decode tX0_live.1.2.1 42 = .ok (.iconst 0, 1) := by decide +kernel
theorem rd_d_X0_live_43 : decode tX0_live.1.2.1 43 = .ok (.istore 8, 2) := by decide +kernel
theorem rd_d_X0_live_103 : decode tX0_live.1.2.1 103 = .ok (.aload_n 0, 1) := by decide +kernel
theorem rd_d_X0_live_104 : decode tX0_live.1.2.1 104 = .ok (.dup, 1) := by decide +kernel
theorem rd_d_X0_live_105 : decode tX0_live.1.2.1 105 = .ok (.getfield 15, 3) := by decide +kernel
theorem rd_k_X0_live_105 : ex_lk ex_mt tX0_live 105 (.getfield 15) [0, 1, 0, 131156] = true := by decide +kernel
theorem rd_d_X0_live_108 : decode tX0_live.1.2.1 108 = .ok (.iload 7, 2) := by decide +kernel
theorem rd_d_X0_live_110 : decode tX0_live.1.2.1 110 = .ok (.iadd, 1) := by decide +kernel
theorem rd_d_X0_live_111 : decode tX0_live.1.2.1 111 = .ok (.putfield 15, 3) := by decide +kernel
theorem rd_k_X0_live_111 : ex_lk ex_mt tX0_live 111 (.putfield 15) [0, 1, 0, 131156] = true := by decide +kernel
theorem rd_d_X0_live_114 : decode tX0_live.1.2.1 114 = .ok (.aload_n 0, 1) := by decide +kernel
theorem rd_d_X0_live_115 : decode tX0_live.1.2.1 115 = .ok (.aload_n 0, 1) := by decide +kernel
theorem rd_d_X0_live_116 : decode tX0_live.1.2.1 116 = .ok (.getfield 18, 3) := by decide +kernel
theorem rd_k_X0_live_116 : ex_lk ex_mt tX0_live 116 (.getfield 18) [0, 2, 0, 131158] = true := by decide +kernel
theorem rd_d_X0_live_119 : decode tX0_live.1.2.1 119 = .ok (.iload 7, 2) := by decide +kernel
theorem rd_d_X0_live_121 : decode tX0_live.1.2.1 121 = .ok (.invokestatic 51, 3) := by decide +kernel
theorem rd_k_X0_live_121 : ex_lk ex_mt tX0_live 121 (.invokestatic 51) [1, 0, 327850, 0] = true := by decide +kernel
theorem rd_d_X0_live_124 : decode tX0_live.1.2.1 124 = .ok (.putfield 18, 3) := by decide +kernel
theorem rd_k_X0_live_124 : ex_lk ex_mt tX0_live 124 (.putfield 18) [0, 2, 0, 131158] = true := by decide +kernel
theorem rd_d_X0_live_127 : decode tX0_live.1.2.1 127 = .ok (.iinc 5 1, 3) := by decide +kernel
theorem rd_d_X0_live_130 : decode tX0_live.1.2.1 130 = .ok (.goto (-112), 3) := by decide +kernel
theorem rd_d_X0_live_133 : decode tX0_live.1.2.1 133 = .ok (.return_, 1) := by decide +kernel
theorem rd_d_X11_canDraw_0 : decode tX11_canDraw.1.2.1 0 = .ok (.iload_n 1, 1) := by decide +kernel
theorem rd_d_X11_canDraw_1 : decode tX11_canDraw.1.2.1 1 = .ok (.iconst 1, 1) := by decide +kernel
theorem rd_d_X11_canDraw_2 : decode tX11_canDraw.1.2.1 2 = .ok (.if_icmp .lt 23, 3) := by decide +kernel
theorem rd_d_X11_canDraw_5 : decode tX11_canDraw.1.2.1 5 = .ok (.iload_n 1, 1) := by decide +kernel
theorem rd_d_X11_canDraw_6 : decode tX11_canDraw.1.2.1 6 = .ok (.bipush 60, 2) := by decide +kernel
theorem rd_d_X11_canDraw_8 : decode tX11_canDraw.1.2.1 8 = .ok (.if_icmp .gt 17, 3) := by decide +kernel
theorem rd_d_X11_canDraw_11 : decode tX11_canDraw.1.2.1 11 = .ok (.aload_n 0, 1) := by decide +kernel
theorem rd_d_X11_canDraw_12 : decode tX11_canDraw.1.2.1 12 = .ok (.getfield 28, 3) := by decide +kernel
theorem rd_k_X11_canDraw_12 : ex_lk ex_mt tX11_canDraw 12 (.getfield 28) [11, 2, 2, 131261] = true := by decide +kernel
theorem rd_d_X11_canDraw_15 : decode tX11_canDraw.1.2.1 15 = .ok (.getfield 291, 3) := by decide +kernel
theorem rd_k_X11_canDraw_15 : ex_lk ex_mt tX11_canDraw 15 (.getfield 291) [9, 7, 0, 65659] = true := by decide +kernel
theorem rd_d_X11_canDraw_18 : decode tX11_canDraw.1.2.1 18 = .ok (.ifCond .le 7, 3) := by decide +kernel
theorem rd_d_X11_canDraw_21 : decode tX11_canDraw.1.2.1 21 = .ok (.iconst 1, 1) := by decide +kernel
theorem rd_d_X11_canDraw_22 : decode tX11_canDraw.1.2.1 22 = .ok (.goto 4, 3) := by decide +kernel
theorem rd_d_X11_canDraw_25 : decode tX11_canDraw.1.2.1 25 = .ok (.iconst 0, 1) := by decide +kernel
theorem rd_d_X11_canDraw_26 : decode tX11_canDraw.1.2.1 26 = .ok (.ireturn, 1) := by decide +kernel
theorem rd_d_X11_drawn_0 : decode tX11_drawn.1.2.1 0 = .ok (.aload_n 0, 1) := by decide +kernel
theorem rd_d_X11_drawn_1 : decode tX11_drawn.1.2.1 1 = .ok (.iload_n 1, 1) := by decide +kernel
theorem rd_d_X11_drawn_2 : decode tX11_drawn.1.2.1 2 = .ok (.invokevirtual 388, 3) := by decide +kernel
theorem rd_k_X11_drawn_2 : ex_lk ex_mt tX11_drawn 2 (.invokevirtual 388) [0, 23, 327819] = true := by decide +kernel
theorem rd_d_X11_drawn_5 : decode tX11_drawn.1.2.1 5 = .ok (.ifCond .ne 5, 3) := by decide +kernel
theorem rd_d_X11_drawn_8 : decode tX11_drawn.1.2.1 8 = .ok (.iconst (-1), 1) := by decide +kernel
theorem rd_d_X11_drawn_9 : decode tX11_drawn.1.2.1 9 = .ok (.ireturn, 1) := by decide +kernel
theorem rd_d_X11_drawn_10 : decode tX11_drawn.1.2.1 10 = .ok (.aload_n 0, 1) := by decide +kernel
theorem rd_d_X11_drawn_11 : decode tX11_drawn.1.2.1 11 = .ok (.getfield 67, 3) := by decide +kernel
theorem rd_k_X11_drawn_11 : ex_lk ex_mt tX11_drawn 11 (.getfield 67) [11, 9, 2, 131268] = true := by decide +kernel
theorem rd_d_X11_drawn_14 : decode tX11_drawn.1.2.1 14 = .ok (.invokevirtual 294, 3) := by decide +kernel
theorem rd_k_X11_drawn_14 : ex_lk ex_mt tX11_drawn 14 (.invokevirtual 294) [0, 220, 262306] = true := by decide +kernel
theorem rd_d_X11_drawn_17 : decode tX11_drawn.1.2.1 17 = .ok (.aload_n 0, 1) := by decide +kernel
theorem rd_d_X11_drawn_18 : decode tX11_drawn.1.2.1 18 = .ok (.getfield 74, 3) := by decide +kernel
theorem rd_k_X11_drawn_18 : ex_lk ex_mt tX11_drawn 18 (.getfield 74) [11, 10, 2, 131269] = true := by decide +kernel
theorem rd_d_X11_drawn_21 : decode tX11_drawn.1.2.1 21 = .ok (.iload_n 1, 1) := by decide +kernel
theorem rd_d_X11_drawn_22 : decode tX11_drawn.1.2.1 22 = .ok (.iload_n 2, 1) := by decide +kernel
theorem rd_d_X11_drawn_23 : decode tX11_drawn.1.2.1 23 = .ok (.aload_n 0, 1) := by decide +kernel
theorem rd_d_X11_drawn_24 : decode tX11_drawn.1.2.1 24 = .ok (.getfield 28, 3) := by decide +kernel
theorem rd_k_X11_drawn_24 : ex_lk ex_mt tX11_drawn 24 (.getfield 28) [11, 2, 2, 131261] = true := by decide +kernel
theorem rd_d_X11_drawn_27 : decode tX11_drawn.1.2.1 27 = .ok (.aload_n 0, 1) := by decide +kernel
theorem rd_d_X11_drawn_28 : decode tX11_drawn.1.2.1 28 = .ok (.getfield 67, 3) := by decide +kernel
theorem rd_k_X11_drawn_28 : ex_lk ex_mt tX11_drawn 28 (.getfield 67) [11, 9, 2, 131268] = true := by decide +kernel
theorem rd_d_X11_drawn_31 : decode tX11_drawn.1.2.1 31 = .ok (.invokevirtual 391, 3) := by decide +kernel
theorem rd_k_X11_drawn_31 : ex_lk ex_mt tX11_drawn 31 (.invokevirtual 391) [0, 14, 327823] = true := by decide +kernel
theorem rd_d_X11_drawn_34 : decode tX11_drawn.1.2.1 34 = .ok (.aload_n 0, 1) := by decide +kernel
theorem rd_d_X11_drawn_35 : decode tX11_drawn.1.2.1 35 = .ok (.getfield 74, 3) := by decide +kernel
theorem rd_k_X11_drawn_35 : ex_lk ex_mt tX11_drawn 35 (.getfield 74) [11, 10, 2, 131269] = true := by decide +kernel
theorem rd_d_X11_drawn_38 : decode tX11_drawn.1.2.1 38 = .ok (.getfield 395, 3) := by decide +kernel
theorem rd_k_X11_drawn_38 : ex_lk ex_mt tX11_drawn 38 (.getfield 395) [0, 1, 0, 131157] = true := by decide +kernel
theorem rd_d_X11_drawn_41 : decode tX11_drawn.1.2.1 41 = .ok (.ireturn, 1) := by decide +kernel
theorem rd_d_X11_luckiest_0 : decode tX11_luckiest.1.2.1 0 = .ok (.aload_n 0, 1) := by decide +kernel
theorem rd_d_X11_luckiest_1 : decode tX11_luckiest.1.2.1 1 = .ok (.iload_n 1, 1) := by decide +kernel
theorem rd_d_X11_luckiest_2 : decode tX11_luckiest.1.2.1 2 = .ok (.invokevirtual 388, 3) := by decide +kernel
theorem rd_k_X11_luckiest_2 : ex_lk ex_mt tX11_luckiest 2 (.invokevirtual 388) [0, 23, 327819] = true := by decide +kernel
theorem rd_d_X11_luckiest_5 : decode tX11_luckiest.1.2.1 5 = .ok (.ifCond .ne 5, 3) := by decide +kernel
theorem rd_d_X11_luckiest_8 : decode tX11_luckiest.1.2.1 8 = .ok (.iconst (-1), 1) := by decide +kernel
theorem rd_d_X11_luckiest_9 : decode tX11_luckiest.1.2.1 9 = .ok (.ireturn, 1) := by decide +kernel
theorem rd_d_X11_luckiest_10 : decode tX11_luckiest.1.2.1 10 = .ok (.aload_n 0, 1) := by decide +kernel
theorem rd_d_X11_luckiest_11 : decode tX11_luckiest.1.2.1 11 = .ok (.getfield 67, 3) := by decide +kernel
theorem rd_k_X11_luckiest_11 : ex_lk ex_mt tX11_luckiest 11 (.getfield 67) [11, 9, 2, 131268] = true := by decide +kernel
theorem rd_d_X11_luckiest_14 : decode tX11_luckiest.1.2.1 14 = .ok (.invokevirtual 294, 3) := by decide +kernel
theorem rd_k_X11_luckiest_14 : ex_lk ex_mt tX11_luckiest 14 (.invokevirtual 294) [0, 220, 262306] = true := by decide +kernel
theorem rd_d_X11_luckiest_17 : decode tX11_luckiest.1.2.1 17 = .ok (.aload_n 0, 1) := by decide +kernel
theorem rd_d_X11_luckiest_18 : decode tX11_luckiest.1.2.1 18 = .ok (.getfield 74, 3) := by decide +kernel
theorem rd_k_X11_luckiest_18 : ex_lk ex_mt tX11_luckiest 18 (.getfield 74) [11, 10, 2, 131269] = true := by decide +kernel
theorem rd_d_X11_luckiest_21 : decode tX11_luckiest.1.2.1 21 = .ok (.iload_n 1, 1) := by decide +kernel
theorem rd_d_X11_luckiest_22 : decode tX11_luckiest.1.2.1 22 = .ok (.iload_n 2, 1) := by decide +kernel
theorem rd_d_X11_luckiest_23 : decode tX11_luckiest.1.2.1 23 = .ok (.aload_n 0, 1) := by decide +kernel
theorem rd_d_X11_luckiest_24 : decode tX11_luckiest.1.2.1 24 = .ok (.getfield 28, 3) := by decide +kernel
theorem rd_k_X11_luckiest_24 : ex_lk ex_mt tX11_luckiest 24 (.getfield 28) [11, 2, 2, 131261] = true := by decide +kernel
theorem rd_d_X11_luckiest_27 : decode tX11_luckiest.1.2.1 27 = .ok (.aload_n 0, 1) := by decide +kernel
theorem rd_d_X11_luckiest_28 : decode tX11_luckiest.1.2.1 28 = .ok (.getfield 67, 3) := by decide +kernel
theorem rd_k_X11_luckiest_28 : ex_lk ex_mt tX11_luckiest 28 (.getfield 67) [11, 9, 2, 131268] = true := by decide +kernel
theorem rd_d_X11_luckiest_31 : decode tX11_luckiest.1.2.1 31 = .ok (.invokevirtual 391, 3) := by decide +kernel
theorem rd_k_X11_luckiest_31 : ex_lk ex_mt tX11_luckiest 31 (.invokevirtual 391) [0, 14, 327823] = true := by decide +kernel
theorem rd_d_X11_luckiest_34 : decode tX11_luckiest.1.2.1 34 = .ok (.aload_n 0, 1) := by decide +kernel
theorem rd_d_X11_luckiest_35 : decode tX11_luckiest.1.2.1 35 = .ok (.getfield 74, 3) := by decide +kernel
theorem rd_k_X11_luckiest_35 : ex_lk ex_mt tX11_luckiest 35 (.getfield 74) [11, 10, 2, 131269] = true := by decide +kernel
theorem rd_d_X11_luckiest_38 : decode tX11_luckiest.1.2.1 38 = .ok (.getfield 398, 3) := by decide +kernel
theorem rd_k_X11_luckiest_38 : ex_lk ex_mt tX11_luckiest 38 (.getfield 398) [0, 2, 0, 131159] = true := by decide +kernel
theorem rd_d_X11_luckiest_41 : decode tX11_luckiest.1.2.1 41 = .ok (.ireturn, 1) := by decide +kernel
section AXX
variable {g : am_C} {L : Nat} {xs : Nat → Int32}
theorem ax_liO (G : sx_G0 g L xs z9 hd_C ex_mt) {s : Nat → Int32} (b : pn_B s) (b3 : pl_B3 s) (b5 : pl_B5 s) (b6 : pl_B6 s) {n x0 : Int32} {N : Nat} (en : n.toInt = (N : Int)) : ∀ (f j : Nat) (k : Int32) (σ : am_S), ax_S σ → pc_X s σ → pb_L s (pz_best s) σ.2.1 → k.toInt = (j : Int) → j + f = N → N ≤ 60 → σ.2.1 80 1 = (pd_out s x0 j).1 → σ.2.1 80 2 = (pd_out s x0 j).2.1 → σ.2.1 80 0 = (pd_out s x0 j).2.2 → am_K g 5 tX0_live.1 0 0 18 [(5, .int k), (0, .ref 80), (1, .int n), (2, .int x0), (3, .ref 4), (4, .ref 68)] [] σ (fun r σ' => r = some none ∧ ax_S σ' ∧ (∀ a b, a ≠ 80 → σ'.2.1 a b = σ.2.1 a b) ∧ σ'.2.2 = σ.2.2 ∧ σ'.2.1 80 1 = (pd_out s x0 N).1 ∧ σ'.2.1 80 2 = (pd_out s x0 N).2.1) := by
  have hsd := pd_sd b (fun k hk => (b5 k hk).1)
  have hsp := sd_p b.1 b.2.1 b3
  intro f
  induction f with
  | zero =>
    intro j k σ hS hX hL ej hj h60 t1 t2 t0
    refine kr_iload 0 rd_d_X0_live_18 rfl ?_
    refine kr_iload_n 2 rd_d_X0_live_20 rfl ?_
    refine kr_icmp_ge (tgt := 133) rd_d_X0_live_21 rfl (fun h1 => ?_) (fun h1 => ?_)
    · have e : j = N := by omega
      subst e
      exact kr_return rd_d_X0_live_133 rfl ⟨rfl, hS, fun _ _ _ => rfl, rfl, t1, t2⟩
    · exact absurd (Int32.le_iff_toInt_le.mpr (by omega)) h1
  | succ f ih =>
    intro j k σ hS hX hL ej hj h60 t1 t2 t0
    obtain ⟨x, hx⟩ : ∃ x, ax_f_nxs (pd_out s x0 j).2.2 = x := ⟨_, rfl⟩
    obtain ⟨S, hSv⟩ : ∃ S, pd_S s (ax_f_dof x (ax_f_sd s 0)) = S := ⟨_, rfl⟩
    have hout : pd_out s x0 (j + 1) = ((pd_out s x0 j).1 + (pd_in s S x (pz_best s).length).1, ax_f_max (pd_out s x0 j).2.1 (pd_in s S x (pz_best s).length).1, (pd_in s S x (pz_best s).length).2) := by rw [← hSv, ← hx]; rfl
    have hb : pl_Bm σ := pc_B b.1 hX
    obtain ⟨R, hR, hRv⟩ := dof_b (x := x) (n := ax_f_sd s 0) (N := (ax_f_sd s 0).toInt.toNat) (by omega) (by omega)
    refine kr_iload 0 rd_d_X0_live_18 rfl ?_
    refine kr_iload_n 2 rd_d_X0_live_20 rfl ?_
    refine kr_icmp_ge (tgt := 133) rd_d_X0_live_21 rfl (fun h21 => ?_) (fun h21 => ?_)
    · have := Int32.le_iff_toInt_le.mp h21
      omega
    · refine kr_aload_n 4 rd_d_X0_live_24 rfl ?_
      refine kr_aload_n 1 rd_d_X0_live_25 rfl ?_
      refine kr_aload_n 4 rd_d_X0_live_26 rfl ?_
      refine kr_iconst (v := 0) rd_d_X0_live_27 (by decide) ?_
      refine rd_call G (T2 := tX9_weightFrom) rfl rd_d_X0_live_28 rd_k_X0_live_28 rfl (hS.1 4 (.inl 9) rfl) (as := [.int 0]) (st := [.ref 80, .ref 4]) rfl (Nat.le_of_ble_eq_true rfl) rfl (Nat.le_of_ble_eq_true rfl) (d1 := 1) (by decide) (fun _ h => by cases h.1) (ax_wf G hS 0 hb) ?_
      intro v0 σ0 ⟨hv0, hs0⟩
      cases hv0
      rw [hs0, wf_eq hX.1 b.1]
      refine rd_call G (T2 := tX0_draw) rfl rd_d_X0_live_31 rd_k_X0_live_31 rfl (hS.1 80 (.inl 0) rfl) (as := [.int (ax_f_sd s 0)]) (st := [.ref 4]) rfl (Nat.le_of_ble_eq_true rfl) rfl (Nat.le_of_ble_eq_true rfl) (d1 := 2) (by decide) (fun _ h => by cases h.1) (ax_drX G hS (ax_f_sd s 0)) ?_
      rw [t0, hx]
      intro v1 σ1 ⟨hv1, hS1, hw1, hf1, hl1⟩
      cases hv1
      have hX1 : pc_X s σ1 := pc_F hX (fun a y z => hf1 a y (by omega))
      have hL1 : pb_L s (pz_best s) σ1.2.1 := ⟨by rw [hf1 68 12 (by omega)]; exact hL.1, fun i h => by rw [hf1 75 i (by omega), hf1 76 i (by omega), hf1 77 i (by omega)]; exact hL.2 i h⟩
      refine rd_call G (T2 := tX9_secondsAtDraw) rfl rd_d_X0_live_34 rd_k_X0_live_34 rfl (hS1.1 4 (.inl 9) rfl) (as := [.int (ax_f_dof x (ax_f_sd s 0))]) (st := []) rfl (Nat.le_of_ble_eq_true rfl) rfl (Nat.le_of_ble_eq_true rfl) (d1 := 3) (by decide) (fun _ h => by cases h.1) (ax_sadX G b hS1 hX1 (by omega) (by omega)) ?_
      rw [hSv]
      intro v2 σ2 ⟨hv2, hs2⟩
      cases hv2
      rw [hs2]
      refine kr_istore (lv' := [(6, .int S), (5, .int k), (0, .ref 80), (1, .int n), (2, .int x0), (3, .ref 4), (4, .ref 68)]) rd_d_X0_live_37 (by decide) rfl ?_
      refine kr_iconst (v := 0) rd_d_X0_live_39 (by decide) ?_
      refine kr_istore (lv' := [(7, .int 0), (6, .int S), (5, .int k), (0, .ref 80), (1, .int n), (2, .int x0), (3, .ref 4), (4, .ref 68)]) rd_d_X0_live_40 (by decide) rfl ?_
      refine kr_iconst (v := 0) rd_d_X0_live_42 (by decide) ?_
      refine kr_istore (lv' := [(8, .int 0), (7, .int 0), (6, .int S), (5, .int k), (0, .ref 80), (1, .int n), (2, .int x0), (3, .ref 4), (4, .ref 68)]) rd_d_X0_live_43 (by decide) rfl ?_
      refine ax_liI G b b6 (S := S) (x := x) (pz_best s).length 0 0 0 σ1 hS1 hX1 hL1 rfl (by omega) rfl hw1 ?_
      intro sd2 σ2 hS2 hf2 hl2 hw2
      generalize pd_in s S x (pz_best s).length = Rr at hout hw2 ⊢
      refine kr_aload_n 4 rd_d_X0_live_103 rfl ?_
      refine kr_dup rd_d_X0_live_104 rfl ?_
      refine kr_getf G.1 (rd_FL rd_k_X0_live_105).1 rd_d_X0_live_105 (hS2.1 80 (.inl 0) rfl) (v := .int (σ2.2.1 80 1)) (by unfold am_fa; rw [(rd_FL rd_k_X0_live_105).2]; rfl) ?_
      refine kr_iload 1 rd_d_X0_live_108 rfl ?_
      refine kr_iadd rd_d_X0_live_110 ?_
      refine ax_putWL G hS2 rd_d_X0_live_111 rd_k_X0_live_111 (hS2.1 80 (.inl 0) rfl) rfl rfl rfl ?_
      intro τz1 hTz1 hwz1 hfz1 hlz1
      have hsτz1 : τz1.2.1 120 = σ2.2.1 120 := (ax_120F hfz1 (by decide))
      have hqτz1 : ax_pl τz1.2.1 = ax_pl σ2.2.1 := (ax_plF hfz1 (by decide))
      have hLτz1 : τz1.2.2 = σ2.2.2 := hlz1
      refine kr_aload_n 4 rd_d_X0_live_114 rfl ?_
      refine kr_aload_n 4 rd_d_X0_live_115 rfl ?_
      refine kr_getf G.1 (rd_FL rd_k_X0_live_116).1 rd_d_X0_live_116 (hTz1.1 80 (.inl 0) rfl) (v := .int (σ2.2.1 80 2)) (by unfold am_fa; rw [(rd_FL rd_k_X0_live_116).2]; exact congrArg Value.int (hfz1 80 2 (fun q => absurd q.2 (by decide)))) ?_
      refine kr_iload 1 rd_d_X0_live_119 rfl ?_
      refine kr_mmax G.1 (ex_mem_ok (show ex_mem 327850 (Cond.methodLink tX0_live.1.1.cls 51 Lib.Math.max.name) = true from rd_k_X0_live_121)) rd_d_X0_live_121 (by decide) (Nat.le_of_ble_eq_true rfl) ?_
      show am_K g 5 tX0_live.1 0 0 124 [(8, .int sd2), (7, .int Rr.1), (6, .int S), (5, .int k), (0, .ref 80), (1, .int n), (2, .int x0), (3, .ref 4), (4, .ref 68)] [.int (ax_f_max (σ2.2.1 80 2) Rr.1), .ref 80] τz1 _
      refine ax_putWL G hTz1 rd_d_X0_live_124 rd_k_X0_live_124 (hTz1.1 80 (.inl 0) rfl) rfl rfl rfl ?_
      intro τz2 hTz2 hwz2 hfz2 hlz2
      have hsτz2 : τz2.2.1 120 = σ2.2.1 120 := (ax_120F hfz2 (by decide)).trans hsτz1
      have hqτz2 : ax_pl τz2.2.1 = ax_pl σ2.2.1 := (ax_plF hfz2 (by decide)).trans hqτz1
      have hLτz2 : τz2.2.2 = σ2.2.2 := hlz2.trans hLτz1
      refine kr_iinc (v := k + 1) (lv' := [(5, .int (k + 1)), (8, .int sd2), (7, .int Rr.1), (6, .int S), (0, .ref 80), (1, .int n), (2, .int x0), (3, .ref 4), (4, .ref 68)]) 3 rd_d_X0_live_127 rfl rfl (by decide) rfl ?_
      refine kr_goto (tgt := 18) rd_d_X0_live_130 rfl ?_
      refine kr_sub (lv' := [(5, .int (k + 1)), (0, .ref 80), (1, .int n), (2, .int x0), (3, .ref 4), (4, .ref 68)]) (by simp) ?_
      have hF : ∀ a b, a ≠ 80 → τz2.2.1 a b = σ.2.1 a b := fun a b q => by rw [hfz2 a b (fun z => q z.1), hfz1 a b (fun z => q z.1), hf2 a b (fun z => q z.1), hf1 a b (fun z => q z.1)]
      have hX3 : pc_X s τz2 := pc_F hX (fun a y z => hF a y (by omega))
      have hL3 : pb_L s (pz_best s) τz2.2.1 := ⟨by rw [hF 68 12 (by decide)]; exact hL.1, fun i h => by rw [hF 75 i (by decide), hF 76 i (by decide), hF 77 i (by decide)]; exact hL.2 i h⟩
      have u1 : σ2.2.1 80 1 = (pd_out s x0 j).1 := by rw [hf2 80 1 (by omega), hf1 80 1 (by omega)]; exact t1
      have u2 : σ2.2.1 80 2 = (pd_out s x0 j).2.1 := by rw [hf2 80 2 (by omega), hf1 80 2 (by omega)]; exact t2
      have c1 : τz2.2.1 80 1 = (pd_out s x0 (j + 1)).1 := (show τz2.2.1 80 1 = (σ2.2.1 80 1) + Rr.1 from (hfz2 80 1 (fun q => absurd q.2 (by decide))).trans (hwz1)).trans (by rw [hout, u1])
      have c2 : τz2.2.1 80 2 = (pd_out s x0 (j + 1)).2.1 := (show τz2.2.1 80 2 = ax_f_max (σ2.2.1 80 2) Rr.1 from hwz2).trans (by rw [hout, u2])
      have c0 : τz2.2.1 80 0 = (pd_out s x0 (j + 1)).2.2 := (show τz2.2.1 80 0 = σ2.2.1 80 0 from (hfz2 80 0 (fun q => absurd q.2 (by decide))).trans (hfz1 80 0 (fun q => absurd q.2 (by decide)))).trans (by rw [hout]; exact hw2)
      refine kr_mono ?_ (ih (j + 1) (k + 1) τz2 hTz2 hX3 hL3 (ax_inc ej (by omega)) (by omega) h60 c1 c2 c0)
      intro r σ' ⟨a1, a2, a3, a4, a5, a6⟩
      exact ⟨a1, a2, fun a b q => (a3 a b q).trans (hF a b q), a4.trans (hLτz2.trans (hl2.trans hl1)), a5, a6⟩
theorem ax_li (G : sx_G0 g L xs z9 hd_C ex_mt) {s : Nat → Int32} (b : pn_B s) (b3 : pl_B3 s) (b5 : pl_B5 s) (b6 : pl_B6 s) {n x0 : Int32} {N : Nat} (en : n.toInt = (N : Int)) (h60 : N ≤ 60) {σ : am_S} (hS : ax_S σ) (hX : pc_X s σ) (hL : pb_L s (pz_best s) σ.2.1) : am_K g 5 tX0_live.1 0 0 0 (lv_args 0 [.ref 80, .int n, .int x0, .ref 4, .ref 68]) [] σ (fun r σ' => r = some none ∧ ax_S σ' ∧ (∀ a b, a ≠ 80 → σ'.2.1 a b = σ.2.1 a b) ∧ σ'.2.2 = σ.2.2 ∧ σ'.2.1 80 1 = (pd_out s x0 N).1 ∧ σ'.2.1 80 2 = (pd_out s x0 N).2.1) := by
  refine kr_aload_n 0 rd_d_X0_live_0 rfl ?_
  refine kr_iload_n 2 rd_d_X0_live_1 rfl ?_
  refine ax_putWL G hS rd_d_X0_live_2 rd_k_X0_live_2 (hS.1 80 (.inl 0) rfl) rfl rfl rfl ?_
  intro τ1 hT1 hw1 hf1 hl1
  have hsτ1 : τ1.2.1 120 = σ.2.1 120 := (ax_120F hf1 (by decide))
  have hqτ1 : ax_pl τ1.2.1 = ax_pl σ.2.1 := (ax_plF hf1 (by decide))
  have hLτ1 : τ1.2.2 = σ.2.2 := hl1
  refine kr_aload_n 0 rd_d_X0_live_5 rfl ?_
  refine kr_iconst (v := 0) rd_d_X0_live_6 (by decide) ?_
  refine ax_putWL G hT1 rd_d_X0_live_7 rd_k_X0_live_7 (hT1.1 80 (.inl 0) rfl) rfl rfl rfl ?_
  intro τ2 hT2 hw2 hf2 hl2
  have hsτ2 : τ2.2.1 120 = σ.2.1 120 := (ax_120F hf2 (by decide)).trans hsτ1
  have hqτ2 : ax_pl τ2.2.1 = ax_pl σ.2.1 := (ax_plF hf2 (by decide)).trans hqτ1
  have hLτ2 : τ2.2.2 = σ.2.2 := hl2.trans hLτ1
  refine kr_aload_n 0 rd_d_X0_live_10 rfl ?_
  refine kr_iconst (v := 0) rd_d_X0_live_11 (by decide) ?_
  refine ax_putWL G hT2 rd_d_X0_live_12 rd_k_X0_live_12 (hT2.1 80 (.inl 0) rfl) rfl rfl rfl ?_
  intro τ3 hT3 hw3 hf3 hl3
  have hsτ3 : τ3.2.1 120 = σ.2.1 120 := (ax_120F hf3 (by decide)).trans hsτ2
  have hqτ3 : ax_pl τ3.2.1 = ax_pl σ.2.1 := (ax_plF hf3 (by decide)).trans hqτ2
  have hLτ3 : τ3.2.2 = σ.2.2 := hl3.trans hLτ2
  refine kr_iconst (v := 0) rd_d_X0_live_15 (by decide) ?_
  refine kr_istore (lv' := [(5, .int 0), (0, .ref 80), (1, .int n), (2, .int x0), (3, .ref 4), (4, .ref 68)]) rd_d_X0_live_16 (by decide) rfl ?_
  have hF : ∀ a b, a ≠ 80 → τ3.2.1 a b = σ.2.1 a b := fun a b q => by rw [hf3 a b (fun z => q z.1), hf2 a b (fun z => q z.1), hf1 a b (fun z => q z.1)]
  have hX3 : pc_X s τ3 := pc_F hX (fun a y z => hF a y (by omega))
  have hL3 : pb_L s (pz_best s) τ3.2.1 := ⟨by rw [hF 68 12 (by decide)]; exact hL.1, fun i h => by rw [hF 75 i (by decide), hF 76 i (by decide), hF 77 i (by decide)]; exact hL.2 i h⟩
  refine kr_mono ?_ (ax_liO G b b3 b5 b6 en N 0 0 τ3 hT3 hX3 hL3 rfl (by omega) h60 ((hf3 80 1 (fun q => absurd q.2 (by decide))).trans (hw2)) (hw3) ((hf3 80 0 (fun q => absurd q.2 (by decide))).trans ((hf2 80 0 (fun q => absurd q.2 (by decide))).trans (hw1))))
  intro r σ' ⟨a1, a2, a3, a4, a5, a6⟩
  exact ⟨a1, a2, fun a b q => (a3 a b q).trans (hF a b q), a4.trans hLτ3, a5, a6⟩
def ax_f_cdr (m : Nat → Nat → Int32) (n : Int32) : Int32 := if n < 1 then 0 else if 60 < n then 0 else if (m 4 7) ≤ 0 then 0 else 1
theorem ax_cdr (G : sx_G0 g L xs z9 hd_C ex_mt) {σ : am_S} (hS : ax_S σ) (n : Int32) : am_K g 1 tX11_canDraw.1 0 0 0 (lv_args 0 [.ref 0, .int n]) [] σ (ax_R (ax_f_cdr σ.2.1 n) σ) := by
  refine kr_iload_n 1 rd_d_X11_canDraw_0 rfl ?_
  refine kr_iconst (v := 1) rd_d_X11_canDraw_1 (by decide) ?_
  refine kr_icmp_lt (tgt := 25) rd_d_X11_canDraw_2 rfl (fun h1 => ?_) (fun h1 => ?_)
  · refine kr_iconst (v := 0) rd_d_X11_canDraw_25 (by decide) ?_
    exact kr_ireturn rd_d_X11_canDraw_26 (ty := .boolean) rfl rfl ⟨by rw [ax_f_cdr, if_pos h1], rfl⟩
  · refine kr_iload_n 1 rd_d_X11_canDraw_5 rfl ?_
    refine kr_bipush (v := 60) rd_d_X11_canDraw_6 (by decide) ?_
    refine kr_icmp_gt (tgt := 25) rd_d_X11_canDraw_8 rfl (fun h2 => ?_) (fun h2 => ?_)
    · refine kr_iconst (v := 0) rd_d_X11_canDraw_25 (by decide) ?_
      exact kr_ireturn rd_d_X11_canDraw_26 (ty := .boolean) rfl rfl ⟨by rw [ax_f_cdr, if_neg h1, if_pos h2], rfl⟩
    · refine kr_aload_n 0 rd_d_X11_canDraw_11 rfl ?_
      refine kr_getf G.1 (rd_FL rd_k_X11_canDraw_12).1 rd_d_X11_canDraw_12 (hS.1 0 (.inl 11) rfl) (v := .ref 4) (by unfold am_fa; rw [(rd_FL rd_k_X11_canDraw_12).2]; exact hS.2 0 2 4 rfl) ?_
      refine kr_getf G.1 (rd_FL rd_k_X11_canDraw_15).1 rd_d_X11_canDraw_15 (hS.1 4 (.inl 9) rfl) (v := .int (σ.2.1 4 7)) (by unfold am_fa; rw [(rd_FL rd_k_X11_canDraw_15).2]; rfl) ?_
      refine kr_if_le (tgt := 25) rd_d_X11_canDraw_18 rfl (fun h3 => ?_) (fun h3 => ?_)
      · refine kr_iconst (v := 0) rd_d_X11_canDraw_25 (by decide) ?_
        exact kr_ireturn rd_d_X11_canDraw_26 (ty := .boolean) rfl rfl ⟨by rw [ax_f_cdr, if_neg h1, if_neg h2, if_pos h3], rfl⟩
      · refine kr_iconst (v := 1) rd_d_X11_canDraw_21 (by decide) ?_
        refine kr_goto (tgt := 26) rd_d_X11_canDraw_22 rfl ?_
        exact kr_ireturn rd_d_X11_canDraw_26 (ty := .boolean) rfl rfl ⟨by rw [ax_f_cdr, if_neg h1, if_neg h2, if_neg h3], rfl⟩
def pz_dcan (s : Nat → Int32) (n : Int32) : Prop := 1 ≤ n.toInt ∧ n.toInt ≤ 60 ∧ ¬ s 0 = 0
theorem cdr_1 {m : Nat → Nat → Int32} {s : Nat → Int32} (h : pl_R m 4 s) (b : pl_B s) {n : Int32} (q : ¬ ax_f_cdr m n = 0) : pz_dcan s n := by
  have z1 : (1 : Int32).toInt = 1 := rfl
  have z60 : (60 : Int32).toInt = 60 := rfl
  have z0 : (0 : Int32).toInt = 0 := rfl
  have h7 : m 4 7 = s 0 := pl_w h
  rw [ax_f_cdr] at q
  split at q
  · exact absurd rfl q
  · rename_i q1
    split at q
    · exact absurd rfl q
    · rename_i q2
      split at q
      · exact absurd rfl q
      · rename_i q3
        refine ⟨?_, ?_, fun e => ?_⟩
        · have : ¬ n.toInt < (1 : Int32).toInt := fun z => q1 (Int32.lt_iff_toInt_lt.mpr z)
          omega
        · have : ¬ (60 : Int32).toInt < n.toInt := fun z => q2 (Int32.lt_iff_toInt_lt.mpr z)
          omega
        · exact q3 (by rw [h7, e]; decide)
theorem cdr_0 {m : Nat → Nat → Int32} {s : Nat → Int32} (h : pl_R m 4 s) (b : pl_B s) {n : Int32} (q : ax_f_cdr m n = 0) : ¬ pz_dcan s n := by
  have z1 : (1 : Int32).toInt = 1 := rfl
  have z60 : (60 : Int32).toInt = 60 := rfl
  have z0 : (0 : Int32).toInt = 0 := rfl
  have h7 : m 4 7 = s 0 := pl_w h
  intro ⟨c1, c2, c3⟩
  rw [ax_f_cdr] at q
  split at q
  · rename_i q1
    have := Int32.lt_iff_toInt_lt.mp q1
    omega
  · split at q
    · rename_i q2
      have := Int32.lt_iff_toInt_lt.mp q2
      omega
    · split at q
      · rename_i q3
        have := Int32.le_iff_toInt_le.mp q3
        rw [h7] at this
        exact c3 (Int32.toInt_inj.mp (by have := b.1.1; omega))
      · exact absurd q (by decide)
theorem ax_drnX (G : sx_G0 g L xs z9 hd_C ex_mt) {s : Nat → Int32} (b : pn_B s) (bw : pl_W s) (b5 : pl_B5 s) (b6 : pl_B6 s) {σ : am_S} (hS : ax_S σ) (hX : pc_X s σ) (hP : pk_P (pc_h s) s σ) (hB : ¬ σ.2.1 68 19 = 0 → pb_K s σ.2.1) (b3 : pl_B3 s) (n x0 : Int32) : am_K g 9 tX11_drawn.1 0 0 0 (lv_args 0 [.ref 0, .int n, .int x0]) [] σ (fun r σ' => (∃ z : Int32, r = some (some (.int z)) ∧ ((pz_dcan s n ∧ z = (pd_out s x0 n.toInt.toNat).1) ∨ (¬ pz_dcan s n ∧ z = -1))) ∧ ax_S σ' ∧ (∀ x y, (x < 68 ∨ 80 < x ∨ (x = 68 ∧ (y < 12 ∨ 19 < y))) → σ'.2.1 x y = σ.2.1 x y) ∧ pk_P (pc_h s) s σ' ∧ (¬ σ'.2.1 68 19 = 0 → pb_K s σ'.2.1)) := by
  refine kr_aload_n 0 rd_d_X11_drawn_0 rfl ?_
  refine kr_iload_n 1 rd_d_X11_drawn_1 rfl ?_
  refine rd_call G (T2 := tX11_canDraw) rfl rd_d_X11_drawn_2 rd_k_X11_drawn_2 rfl (hS.1 0 (.inl 11) rfl) (as := [.int n]) (st := []) rfl (Nat.le_of_ble_eq_true rfl) rfl (Nat.le_of_ble_eq_true rfl) (d1 := 1) (by decide) (fun _ h => by cases h.1) (ax_cdr G hS n) ?_
  intro v1 σ1 ⟨hv1, hs1⟩
  cases hv1
  rw [hs1]
  refine kr_if_ne (tgt := 10) rd_d_X11_drawn_5 rfl (fun h2 => ?_) (fun h2 => ?_)
  · refine kr_aload_n 0 rd_d_X11_drawn_10 rfl ?_
    refine kr_getf G.1 (rd_FL rd_k_X11_drawn_11).1 rd_d_X11_drawn_11 (hS.1 0 (.inl 11) rfl) (v := .ref 68) (by unfold am_fa; rw [(rd_FL rd_k_X11_drawn_11).2]; exact hS.2 0 9 68 rfl) ?_
    have hc := cdr_1 hX.1 b.1 (n := n) h2
    refine rd_call G (T2 := tX4_prepareBest) rfl rd_d_X11_drawn_14 rd_k_X11_drawn_14 rfl (hS.1 68 (.inl 4) rfl) (as := []) (st := []) rfl (Nat.le_of_ble_eq_true rfl) rfl (Nat.le_of_ble_eq_true rfl) (d1 := 8) (by decide) (fun _ h => by cases h.1) (ax_pb G b bw b5 b6 hS hX hP hB) ?_
    intro v1 σ1 ⟨hv1, hS1, hf1, hl1, hP1, hn19, hK1⟩
    cases hv1
    have hX1 : pc_X s σ1 := pc_F hX (fun x y q => hf1 x y (by omega))
    refine kr_aload_n 0 rd_d_X11_drawn_17 rfl ?_
    refine kr_getf G.1 (rd_FL rd_k_X11_drawn_18).1 rd_d_X11_drawn_18 (hS1.1 0 (.inl 11) rfl) (v := .ref 80) (by unfold am_fa; rw [(rd_FL rd_k_X11_drawn_18).2]; exact hS1.2 0 10 80 rfl) ?_
    refine kr_iload_n 1 rd_d_X11_drawn_21 rfl ?_
    refine kr_iload_n 2 rd_d_X11_drawn_22 rfl ?_
    refine kr_aload_n 0 rd_d_X11_drawn_23 rfl ?_
    refine kr_getf G.1 (rd_FL rd_k_X11_drawn_24).1 rd_d_X11_drawn_24 (hS1.1 0 (.inl 11) rfl) (v := .ref 4) (by unfold am_fa; rw [(rd_FL rd_k_X11_drawn_24).2]; exact hS1.2 0 2 4 rfl) ?_
    refine kr_aload_n 0 rd_d_X11_drawn_27 rfl ?_
    refine kr_getf G.1 (rd_FL rd_k_X11_drawn_28).1 rd_d_X11_drawn_28 (hS1.1 0 (.inl 11) rfl) (v := .ref 68) (by unfold am_fa; rw [(rd_FL rd_k_X11_drawn_28).2]; exact hS1.2 0 9 68 rfl) ?_
    obtain ⟨c1, c2, c3⟩ := id hc
    refine rd_call G (T2 := tX0_live) rfl rd_d_X11_drawn_31 rd_k_X11_drawn_31 rfl (hS1.1 80 (.inl 0) rfl) (as := [.int n, .int x0, .ref 4, .ref 68]) (st := []) rfl (Nat.le_of_ble_eq_true rfl) rfl (Nat.le_of_ble_eq_true rfl) (d1 := 5) (by decide) (fun _ h => by cases h.1) (ax_li G b b3 b5 b6 (N := n.toInt.toNat) (by omega) (by omega) hS1 hX1 hK1.2.2) ?_
    intro v2 σ2 ⟨hv2, hS2, a3, a4, a5, a6⟩
    cases hv2
    have hP2 : pk_P (pc_h s) s σ2 := pk_PF hP1 (fun x y q => a3 x y (by omega)) (fun y => by rw [a4])
    have hK2 : pb_K s σ2.2.1 := pb_KF hK1 (fun x y q => a3 x y (by omega))
    refine kr_aload_n 0 rd_d_X11_drawn_34 rfl ?_
    refine kr_getf G.1 (rd_FL rd_k_X11_drawn_35).1 rd_d_X11_drawn_35 (hS2.1 0 (.inl 11) rfl) (v := .ref 80) (by unfold am_fa; rw [(rd_FL rd_k_X11_drawn_35).2]; exact hS2.2 0 10 80 rfl) ?_
    refine kr_getf G.1 (rd_FL rd_k_X11_drawn_38).1 rd_d_X11_drawn_38 (hS2.1 80 (.inl 0) rfl) (v := .int (σ2.2.1 80 1)) (by unfold am_fa; rw [(rd_FL rd_k_X11_drawn_38).2]; rfl) ?_
    exact kr_ireturn rd_d_X11_drawn_41 (ty := .int) rfl rfl ⟨⟨_, rfl, Or.inl ⟨hc, a5⟩⟩, hS2, fun x y q => (a3 x y (by omega)).trans (hf1 x y (by omega)), hP2, fun _ => hK2⟩
  · refine kr_iconst (v := (-1)) rd_d_X11_drawn_8 (by decide) ?_
    exact kr_ireturn rd_d_X11_drawn_9 (ty := .int) rfl rfl ⟨⟨_, rfl, Or.inr ⟨cdr_0 hX.1 b.1 h2, rfl⟩⟩, hS, fun _ _ _ => rfl, hP, hB⟩
theorem ax_lukX (G : sx_G0 g L xs z9 hd_C ex_mt) {s : Nat → Int32} (b : pn_B s) (bw : pl_W s) (b5 : pl_B5 s) (b6 : pl_B6 s) {σ : am_S} (hS : ax_S σ) (hX : pc_X s σ) (hP : pk_P (pc_h s) s σ) (hB : ¬ σ.2.1 68 19 = 0 → pb_K s σ.2.1) (b3 : pl_B3 s) (n x0 : Int32) : am_K g 9 tX11_luckiest.1 0 0 0 (lv_args 0 [.ref 0, .int n, .int x0]) [] σ (fun r σ' => (∃ z : Int32, r = some (some (.int z)) ∧ ((pz_dcan s n ∧ z = (pd_out s x0 n.toInt.toNat).2.1) ∨ (¬ pz_dcan s n ∧ z = -1))) ∧ ax_S σ' ∧ (∀ x y, (x < 68 ∨ 80 < x ∨ (x = 68 ∧ (y < 12 ∨ 19 < y))) → σ'.2.1 x y = σ.2.1 x y) ∧ pk_P (pc_h s) s σ' ∧ (¬ σ'.2.1 68 19 = 0 → pb_K s σ'.2.1)) := by
  refine kr_aload_n 0 rd_d_X11_luckiest_0 rfl ?_
  refine kr_iload_n 1 rd_d_X11_luckiest_1 rfl ?_
  refine rd_call G (T2 := tX11_canDraw) rfl rd_d_X11_luckiest_2 rd_k_X11_luckiest_2 rfl (hS.1 0 (.inl 11) rfl) (as := [.int n]) (st := []) rfl (Nat.le_of_ble_eq_true rfl) rfl (Nat.le_of_ble_eq_true rfl) (d1 := 1) (by decide) (fun _ h => by cases h.1) (ax_cdr G hS n) ?_
  intro v1 σ1 ⟨hv1, hs1⟩
  cases hv1
  rw [hs1]
  refine kr_if_ne (tgt := 10) rd_d_X11_luckiest_5 rfl (fun h2 => ?_) (fun h2 => ?_)
  · refine kr_aload_n 0 rd_d_X11_luckiest_10 rfl ?_
    refine kr_getf G.1 (rd_FL rd_k_X11_luckiest_11).1 rd_d_X11_luckiest_11 (hS.1 0 (.inl 11) rfl) (v := .ref 68) (by unfold am_fa; rw [(rd_FL rd_k_X11_luckiest_11).2]; exact hS.2 0 9 68 rfl) ?_
    have hc := cdr_1 hX.1 b.1 (n := n) h2
    refine rd_call G (T2 := tX4_prepareBest) rfl rd_d_X11_luckiest_14 rd_k_X11_luckiest_14 rfl (hS.1 68 (.inl 4) rfl) (as := []) (st := []) rfl (Nat.le_of_ble_eq_true rfl) rfl (Nat.le_of_ble_eq_true rfl) (d1 := 8) (by decide) (fun _ h => by cases h.1) (ax_pb G b bw b5 b6 hS hX hP hB) ?_
    intro v1 σ1 ⟨hv1, hS1, hf1, hl1, hP1, hn19, hK1⟩
    cases hv1
    have hX1 : pc_X s σ1 := pc_F hX (fun x y q => hf1 x y (by omega))
    refine kr_aload_n 0 rd_d_X11_luckiest_17 rfl ?_
    refine kr_getf G.1 (rd_FL rd_k_X11_luckiest_18).1 rd_d_X11_luckiest_18 (hS1.1 0 (.inl 11) rfl) (v := .ref 80) (by unfold am_fa; rw [(rd_FL rd_k_X11_luckiest_18).2]; exact hS1.2 0 10 80 rfl) ?_
    refine kr_iload_n 1 rd_d_X11_luckiest_21 rfl ?_
    refine kr_iload_n 2 rd_d_X11_luckiest_22 rfl ?_
    refine kr_aload_n 0 rd_d_X11_luckiest_23 rfl ?_
    refine kr_getf G.1 (rd_FL rd_k_X11_luckiest_24).1 rd_d_X11_luckiest_24 (hS1.1 0 (.inl 11) rfl) (v := .ref 4) (by unfold am_fa; rw [(rd_FL rd_k_X11_luckiest_24).2]; exact hS1.2 0 2 4 rfl) ?_
    refine kr_aload_n 0 rd_d_X11_luckiest_27 rfl ?_
    refine kr_getf G.1 (rd_FL rd_k_X11_luckiest_28).1 rd_d_X11_luckiest_28 (hS1.1 0 (.inl 11) rfl) (v := .ref 68) (by unfold am_fa; rw [(rd_FL rd_k_X11_luckiest_28).2]; exact hS1.2 0 9 68 rfl) ?_
    obtain ⟨c1, c2, c3⟩ := id hc
    refine rd_call G (T2 := tX0_live) rfl rd_d_X11_luckiest_31 rd_k_X11_luckiest_31 rfl (hS1.1 80 (.inl 0) rfl) (as := [.int n, .int x0, .ref 4, .ref 68]) (st := []) rfl (Nat.le_of_ble_eq_true rfl) rfl (Nat.le_of_ble_eq_true rfl) (d1 := 5) (by decide) (fun _ h => by cases h.1) (ax_li G b b3 b5 b6 (N := n.toInt.toNat) (by omega) (by omega) hS1 hX1 hK1.2.2) ?_
    intro v2 σ2 ⟨hv2, hS2, a3, a4, a5, a6⟩
    cases hv2
    have hP2 : pk_P (pc_h s) s σ2 := pk_PF hP1 (fun x y q => a3 x y (by omega)) (fun y => by rw [a4])
    have hK2 : pb_K s σ2.2.1 := pb_KF hK1 (fun x y q => a3 x y (by omega))
    refine kr_aload_n 0 rd_d_X11_luckiest_34 rfl ?_
    refine kr_getf G.1 (rd_FL rd_k_X11_luckiest_35).1 rd_d_X11_luckiest_35 (hS2.1 0 (.inl 11) rfl) (v := .ref 80) (by unfold am_fa; rw [(rd_FL rd_k_X11_luckiest_35).2]; exact hS2.2 0 10 80 rfl) ?_
    refine kr_getf G.1 (rd_FL rd_k_X11_luckiest_38).1 rd_d_X11_luckiest_38 (hS2.1 80 (.inl 0) rfl) (v := .int (σ2.2.1 80 2)) (by unfold am_fa; rw [(rd_FL rd_k_X11_luckiest_38).2]; rfl) ?_
    exact kr_ireturn rd_d_X11_luckiest_41 (ty := .int) rfl rfl ⟨⟨_, rfl, Or.inl ⟨hc, a6⟩⟩, hS2, fun x y q => (a3 x y (by omega)).trans (hf1 x y (by omega)), hP2, fun _ => hK2⟩
  · refine kr_iconst (v := (-1)) rd_d_X11_luckiest_8 (by decide) ?_
    exact kr_ireturn rd_d_X11_luckiest_9 (ty := .int) rfl rfl ⟨⟨_, rfl, Or.inr ⟨cdr_0 hX.1 b.1 h2, rfl⟩⟩, hS, fun _ _ _ => rfl, hP, hB⟩
end AXX
