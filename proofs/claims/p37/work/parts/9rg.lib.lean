/-! exact answers, further (rows written by a program) -/
theorem rd_d_X4_prepareBest_0 : decode tX4_prepareBest.1.2.1 0 = .ok (.aload_n 0, 1) := by decide +kernel
theorem rd_d_X4_prepareBest_1 : decode tX4_prepareBest.1.2.1 1 = .ok (.getfield 57, 3) := by decide +kernel
theorem rd_k_X4_prepareBest_1 : ex_lk ex_mt tX4_prepareBest 1 (.getfield 57) [4, 19, 0, 131106] = true := by decide +kernel
theorem rd_d_X4_prepareBest_4 : decode tX4_prepareBest.1.2.1 4 = .ok (.ifCond .eq 4, 3) := by decide +kernel
theorem rd_d_X4_prepareBest_7 : decode tX4_prepareBest.1.2.1 7 = .ok (.return_, 1) := by decide +kernel
theorem rd_d_X4_prepareBest_8 : decode tX4_prepareBest.1.2.1 8 = .ok (.aload_n 0, 1) := by decide +kernel
theorem rd_d_X4_prepareBest_9 : decode tX4_prepareBest.1.2.1 9 = .ok (.invokevirtual 140, 3) := by decide +kernel
theorem rd_k_X4_prepareBest_9 : ex_lk ex_mt tX4_prepareBest 9 (.invokevirtual 140) [0, 222, 262310] = true := by decide +kernel
theorem rd_d_X4_prepareBest_12 : decode tX4_prepareBest.1.2.1 12 = .ok (.aload_n 0, 1) := by decide +kernel
theorem rd_d_X4_prepareBest_13 : decode tX4_prepareBest.1.2.1 13 = .ok (.iconst 1, 1) := by decide +kernel
theorem rd_d_X4_prepareBest_14 : decode tX4_prepareBest.1.2.1 14 = .ok (.putfield 57, 3) := by decide +kernel
theorem rd_k_X4_prepareBest_14 : ex_lk ex_mt tX4_prepareBest 14 (.putfield 57) [4, 19, 3, 131106] = true := by decide +kernel
theorem rd_d_X4_prepareBest_17 : decode tX4_prepareBest.1.2.1 17 = .ok (.aload_n 0, 1) := by decide +kernel
theorem rd_d_X4_prepareBest_18 : decode tX4_prepareBest.1.2.1 18 = .ok (.iconst 0, 1) := by decide +kernel
theorem rd_d_X4_prepareBest_19 : decode tX4_prepareBest.1.2.1 19 = .ok (.putfield 143, 3) := by decide +kernel
theorem rd_k_X4_prepareBest_19 : ex_lk ex_mt tX4_prepareBest 19 (.putfield 143) [4, 13, 0, 131098] = true := by decide +kernel
theorem rd_d_X4_prepareBest_22 : decode tX4_prepareBest.1.2.1 22 = .ok (.aload_n 0, 1) := by decide +kernel
theorem rd_d_X4_prepareBest_23 : decode tX4_prepareBest.1.2.1 23 = .ok (.iconst 1, 1) := by decide +kernel
theorem rd_d_X4_prepareBest_24 : decode tX4_prepareBest.1.2.1 24 = .ok (.putfield 146, 3) := by decide +kernel
theorem rd_k_X4_prepareBest_24 : ex_lk ex_mt tX4_prepareBest 24 (.putfield 146) [4, 14, 0, 131100] = true := by decide +kernel
theorem rd_d_X4_prepareBest_27 : decode tX4_prepareBest.1.2.1 27 = .ok (.iconst (-1), 1) := by decide +kernel
theorem rd_d_X4_prepareBest_28 : decode tX4_prepareBest.1.2.1 28 = .ok (.istore_n 1, 1) := by decide +kernel
theorem rd_d_X4_prepareBest_29 : decode tX4_prepareBest.1.2.1 29 = .ok (.iconst 0, 1) := by decide +kernel
theorem rd_d_X4_prepareBest_30 : decode tX4_prepareBest.1.2.1 30 = .ok (.istore_n 2, 1) := by decide +kernel
theorem rd_d_X4_prepareBest_100 : decode tX4_prepareBest.1.2.1 100 = .ok (.aload_n 0, 1) := by decide +kernel
theorem rd_d_X4_prepareBest_101 : decode tX4_prepareBest.1.2.1 101 = .ok (.invokevirtual 152, 3) := by decide +kernel
theorem rd_k_X4_prepareBest_101 : ex_lk ex_mt tX4_prepareBest 101 (.invokevirtual 152) [0, 233, 262364] = true := by decide +kernel
theorem rd_d_X4_prepareBest_104 : decode tX4_prepareBest.1.2.1 104 = .ok (.return_, 1) := by decide +kernel
section AXX
variable {g : am_C} {L : Nat} {xs : Nat → Int32}
/-- the best plan that is kept is right -/
def pb_K (s : Nat → Int32) (m : Nat → Nat → Int32) : Prop := (m 68 13).toInt = (pb_a s : Int) ∧ (m 68 14).toInt = (pb_u s : Int) ∧ pb_L s (pz_best s) m
theorem pk_PF {CH : List Nat → Nat → Nat → Int64 → Prop} {s : Nat → Int32} {σ σ' : am_S} (h : pk_P CH s σ) (f : ∀ x y, (x = 69 ∨ x = 71 ∨ x = 73 ∨ x = 74 ∨ (x = 68 ∧ 16 ≤ y ∧ y ≤ 18)) → σ'.2.1 x y = σ.2.1 x y) (fl : ∀ y, σ'.2.2.1 72 y = σ.2.2.1 72 y) : pk_P CH s σ' := by
  refine ⟨fun n => ?_, fun n => ?_⟩
  · rw [f 68 17 (by omega)] at n
    obtain ⟨⟨H, hg⟩, hr⟩ := h.1 n
    exact ⟨⟨H, pg_F hg (fun x y q => f x y (by omega))⟩, pk_rF hr (fun y => ⟨f 73 y (by omega), f 74 y (by omega)⟩)⟩
  · rw [f 68 18 (by omega)] at n
    obtain ⟨n17, hS, H, hg, hc⟩ := h.2 n
    refine ⟨by rw [f 68 17 (by omega)]; exact n17, fun UP k q h1 h2 h3 => ?_, H, pg_F hg (fun x y q => f x y (by omega)), fun UP k T h1 h2 h3 => ?_⟩
    · rw [f 71 _ (by omega)]
      exact hS UP k q h1 h2 h3
    · rw [fl]
      exact hc UP k T h1 h2 h3
theorem pb_A {s : Nat → Int32} (b : pn_B s) : pb_a s ≤ 9 ∧ (pb_u s = 1 ∨ pb_a s < pz_W s) ∧ pb_a s ≤ pz_W s := by
  have h10 := b.1.1
  by_cases h : 1 ≤ pz_W s
  · have := pb_aW h
    have e : pz_W s ≤ 10 := by unfold pz_W; omega
    omega
  · have hW : pz_W s = 0 := by omega
    have e0 : pb_q s = 0 := by unfold pb_q; rw [hW]; rfl
    have e1 : pb_a s = 0 := by unfold pb_a; rw [e0]
    have e2 : pb_u s = 1 := by unfold pb_u; rw [e0]
    omega
theorem ax_pb (G : sx_G0 g L xs z9 hd_C ex_mt) {s : Nat → Int32} (b : pn_B s) (bw : pl_W s) (b5 : pl_B5 s) (b6 : pl_B6 s) {σ : am_S} (hS : ax_S σ) (hX : pc_X s σ) (hP : pk_P (pc_h s) s σ) (hB : ¬ σ.2.1 68 19 = 0 → pb_K s σ.2.1) : am_K g 8 tX4_prepareBest.1 0 0 0 (lv_args 0 [.ref 68]) [] σ (fun r σ' => r = some none ∧ ax_S σ' ∧ (∀ x y, (x < 68 ∨ 79 < x ∨ (x = 68 ∧ (y < 12 ∨ 19 < y))) → σ'.2.1 x y = σ.2.1 x y) ∧ (∀ x y, x ≠ 72 → σ'.2.2.1 x y = σ.2.2.1 x y) ∧ pk_P (pc_h s) s σ' ∧ ¬ σ'.2.1 68 19 = 0 ∧ pb_K s σ'.2.1) := by
  refine kr_aload_n 0 rd_d_X4_prepareBest_0 rfl ?_
  refine kr_getf G.1 (rd_FL rd_k_X4_prepareBest_1).1 rd_d_X4_prepareBest_1 (hS.1 68 (.inl 4) rfl) (v := .int (σ.2.1 68 19)) (by unfold am_fa; rw [(rd_FL rd_k_X4_prepareBest_1).2]; rfl) ?_
  refine kr_if_eq (tgt := 8) rd_d_X4_prepareBest_4 rfl (fun h1 => ?_) (fun h1 => ?_)
  · refine kr_aload_n 0 rd_d_X4_prepareBest_8 rfl ?_
    refine rd_call G (T2 := tX4_prepareStarts) rfl rd_d_X4_prepareBest_9 rd_k_X4_prepareBest_9 rfl (hS.1 68 (.inl 4) rfl) (as := []) (st := []) rfl (Nat.le_of_ble_eq_true rfl) rfl (Nat.le_of_ble_eq_true rfl) (d1 := 6) (by decide) (fun _ h => by cases h.1) (ax_ps G hS b bw b5 (CH := pc_h s) (fun ws T => pc_h0 s ws T) (fun w ws T j ch fx fo => pc_hS b w ws T j ch fx fo) hX hP) ?_
    intro v1 σ1 ⟨hv1, hS1, hfA, hn1, hP1, hlA⟩
    cases hv1
    have hX1 : pc_X s σ1 := pc_F hX (fun x y q => hfA x y (by omega) (by omega) (by omega) (by omega) (by omega) (by omega) (by omega) (fun z => by omega))
    obtain ⟨hn17, hst, H, hg1, hcc⟩ := hP1.2 hn1
    refine kr_aload_n 0 rd_d_X4_prepareBest_12 rfl ?_
    refine kr_iconst (v := 1) rd_d_X4_prepareBest_13 (by decide) ?_
    refine ax_putWL G hS1 rd_d_X4_prepareBest_14 rd_k_X4_prepareBest_14 (hS1.1 68 (.inl 4) rfl) rfl rfl rfl ?_
    intro τ1 hT1 hw1 hf1 hl1
    have hsτ1 : τ1.2.1 120 = σ1.2.1 120 := (ax_120F hf1 (by decide))
    have hqτ1 : ax_pl τ1.2.1 = ax_pl σ1.2.1 := (ax_plF hf1 (by decide))
    have hLτ1 : τ1.2.2 = σ1.2.2 := hl1
    refine kr_aload_n 0 rd_d_X4_prepareBest_17 rfl ?_
    refine kr_iconst (v := 0) rd_d_X4_prepareBest_18 (by decide) ?_
    refine ax_putWL G hT1 rd_d_X4_prepareBest_19 rd_k_X4_prepareBest_19 (hT1.1 68 (.inl 4) rfl) rfl rfl rfl ?_
    intro τ2 hT2 hw2 hf2 hl2
    have hsτ2 : τ2.2.1 120 = σ1.2.1 120 := (ax_120F hf2 (by decide)).trans hsτ1
    have hqτ2 : ax_pl τ2.2.1 = ax_pl σ1.2.1 := (ax_plF hf2 (by decide)).trans hqτ1
    have hLτ2 : τ2.2.2 = σ1.2.2 := hl2.trans hLτ1
    refine kr_aload_n 0 rd_d_X4_prepareBest_22 rfl ?_
    refine kr_iconst (v := 1) rd_d_X4_prepareBest_23 (by decide) ?_
    refine ax_putWL G hT2 rd_d_X4_prepareBest_24 rd_k_X4_prepareBest_24 (hT2.1 68 (.inl 4) rfl) rfl rfl rfl ?_
    intro τ3 hT3 hw3 hf3 hl3
    have hsτ3 : τ3.2.1 120 = σ1.2.1 120 := (ax_120F hf3 (by decide)).trans hsτ2
    have hqτ3 : ax_pl τ3.2.1 = ax_pl σ1.2.1 := (ax_plF hf3 (by decide)).trans hqτ2
    have hLτ3 : τ3.2.2 = σ1.2.2 := hl3.trans hLτ2
    refine kr_iconst (v := (-1)) rd_d_X4_prepareBest_27 (by decide) ?_
    refine kr_istore_n (lv' := [(1, .int ((-1))), (0, .ref 68)]) rd_d_X4_prepareBest_28 (by decide) rfl ?_
    refine kr_iconst (v := 0) rd_d_X4_prepareBest_29 (by decide) ?_
    refine kr_istore_n (lv' := [(2, .int 0), (1, .int ((-1))), (0, .ref 68)]) rd_d_X4_prepareBest_30 (by decide) rfl ?_
    have hfB : ∀ x y, ¬ (x = 68 ∧ (y = 13 ∨ y = 14 ∨ y = 19)) → τ3.2.1 x y = σ1.2.1 x y := fun x y q => (hf3 x y (fun z => q ⟨z.1, by have := z.2; omega⟩)).trans ((hf2 x y (fun z => q ⟨z.1, by have := z.2; omega⟩)).trans (hf1 x y (fun z => q ⟨z.1, by have := z.2; omega⟩)))
    have hX2 : pc_X s τ3 := pc_F hX1 (fun x y q => hfB x y (fun z => by omega))
    refine kr_sub (lv' := [(2, .int 0), (1, .int (-1)), (0, .ref 68)]) (by simp) ?_
    refine ax_pbW G b b6 (pz_W s) 0 0 (-1) τ3 hT3 hX2 (fun UP k f h1 h2 h3 => by rw [hfB 71 _ (fun z => absurd z.1 (by decide))]; exact hst UP k f h1 h2 h3) rfl (by omega) (Or.inl ⟨rfl, rfl, fun _ => ⟨by rw [(hf3 68 13 (fun q => absurd q.2 (by decide))).trans (hw2)]; rfl, by rw [hw3]; rfl⟩⟩) ?_
    intro σ3 w3 mo3 hS3 hfC hlC hI3
    obtain ⟨ea, eu⟩ := pb_end hI3 (Or.inl rfl)
    obtain ⟨A9, AU, AW⟩ := pb_A b
    have hX3 : pc_X s σ3 := pc_F hX2 (fun x y q => hfC x y (fun z => by omega))
    have el3 : σ3.2.2.1 = σ1.2.2.1 := (congrArg Prod.fst hlC).trans (congrArg Prod.fst hLτ3)
    have e19 : σ3.2.1 68 19 = 1 := by rw [hfC 68 19 (fun z => by omega)]; exact (hf3 68 19 (fun q => absurd q.2 (by decide))).trans ((hf2 68 19 (fun q => absurd q.2 (by decide))).trans (hw1))
    refine kr_aload_n 2 rd_d_X4_prepareBest_100 rfl ?_
    refine rd_call G (T2 := tX4_traceBest) rfl rd_d_X4_prepareBest_101 rd_k_X4_prepareBest_101 rfl (hS3.1 68 (.inl 4) rfl) (as := []) (st := []) rfl (Nat.le_of_ble_eq_true rfl) rfl (Nat.le_of_ble_eq_true rfl) (d1 := 6) (by decide) (fun _ h => by cases h.1) (ax_tb G b b6 (U := pb_u s) (A := pb_a s) (H := H) (pb_u1 s) A9 AU AW hg1.1.1 (fun v x h1 h2 => hg1.2.2.1 v x h1 h2) hS3 hX3 ea eu (by rw [hfC 68 16 (fun z => by omega), hfB 68 16 (fun z => by omega)]; exact hg1.2.1) (fun K T h1 h2 => ?_)) ?_
    · obtain ⟨hAW, hKA⟩ := br_A (k := K) AU h1
      obtain ⟨r1, r2, r3⟩ := br_S (s := s) (U := pb_u s) (k := K) hAW h1
      obtain ⟨k, hk1, hk3, hk4⟩ := pk_of (s := s) (a := br_w (pb_u s) (pb_a s) K) (up := pb_u s) (by unfold pz_W at r3; omega)
      have h := hcc (pb_u s) k T (pb_u1 s) hk1 h2
      rw [hk3, hk4] at h
      rw [r2, el3]
      exact h
    intro v4 σ4 ⟨hv4, hS4, hfD, hlD, hL4⟩
    cases hv4
    have el4 : σ4.2.2.1 = σ1.2.2.1 := (congrArg Prod.fst hlD).trans el3
    have f41 : ∀ x y, ¬ (x = 68 ∧ (12 ≤ y ∧ y ≤ 14 ∨ y = 19)) → x ≠ 75 → x ≠ 76 → x ≠ 77 → σ4.2.1 x y = σ1.2.1 x y := fun x y q x5 x6 x7 => (hfD x y (fun z => q ⟨z.1, by have := z.2; omega⟩) x5 x6 x7).trans ((hfC x y (fun z => q ⟨z.1, by have := z.2; omega⟩)).trans (hfB x y (fun z => q ⟨z.1, by have := z.2; omega⟩)))
    refine kr_return rd_d_X4_prepareBest_104 rfl ⟨rfl, hS4, fun x y q => (f41 x y (fun z => by omega) (by omega) (by omega) (by omega)).trans (hfA x y (by omega) (by omega) (by omega) (by omega) (by omega) (by omega) (by omega) (fun z => by omega)), fun x y hx => by rw [el4]; exact hlA x y hx, pk_PF hP1 (fun x y q => f41 x y (fun z => by omega) (by omega) (by omega) (by omega)) (fun y => by rw [el4]), ?_, ?_⟩
    · rw [hfD 68 19 (fun z => by omega) (by decide) (by decide) (by decide), e19]; decide
    · exact ⟨by rw [hfD 68 13 (fun z => by omega) (by decide) (by decide) (by decide)]; exact ea, by rw [hfD 68 14 (fun z => by omega) (by decide) (by decide) (by decide)]; exact eu, hL4⟩
  · exact kr_return rd_d_X4_prepareBest_7 rfl ⟨rfl, hS, fun _ _ _ => rfl, fun _ _ _ => rfl, hP, h1, hB h1⟩
end AXX
