/-! exact answers, further (rows written by a program) -/
theorem rd_d_X4_prepareBest_31 : decode tX4_prepareBest.1.2.1 31 = .ok (.iload_n 2, 1) := by decide +kernel
theorem rd_d_X4_prepareBest_32 : decode tX4_prepareBest.1.2.1 32 = .ok (.aload_n 0, 1) := by decide +kernel
theorem rd_d_X4_prepareBest_33 : decode tX4_prepareBest.1.2.1 33 = .ok (.getfield 46, 3) := by decide +kernel
theorem rd_k_X4_prepareBest_33 : ex_lk ex_mt tX4_prepareBest 33 (.getfield 46) [4, 0, 2, 131083] = true := by decide +kernel
theorem rd_d_X4_prepareBest_36 : decode tX4_prepareBest.1.2.1 36 = .ok (.getfield 76, 3) := by decide +kernel
theorem rd_k_X4_prepareBest_36 : ex_lk ex_mt tX4_prepareBest 36 (.getfield 76) [9, 7, 0, 65657] = true := by decide +kernel
theorem rd_d_X4_prepareBest_39 : decode tX4_prepareBest.1.2.1 39 = .ok (.if_icmp .ge 61, 3) := by decide +kernel
theorem rd_d_X4_prepareBest_42 : decode tX4_prepareBest.1.2.1 42 = .ok (.iconst 1, 1) := by decide +kernel
theorem rd_d_X4_prepareBest_43 : decode tX4_prepareBest.1.2.1 43 = .ok (.istore_n 3, 1) := by decide +kernel
theorem rd_d_X4_prepareBest_44 : decode tX4_prepareBest.1.2.1 44 = .ok (.iload_n 3, 1) := by decide +kernel
theorem rd_d_X4_prepareBest_45 : decode tX4_prepareBest.1.2.1 45 = .ok (.ifCond .lt 49, 3) := by decide +kernel
theorem rd_d_X4_prepareBest_48 : decode tX4_prepareBest.1.2.1 48 = .ok (.aload_n 0, 1) := by decide +kernel
theorem rd_d_X4_prepareBest_49 : decode tX4_prepareBest.1.2.1 49 = .ok (.getfield 18, 3) := by decide +kernel
theorem rd_k_X4_prepareBest_49 : ex_lk ex_mt tX4_prepareBest 49 (.getfield 18) [4, 3, 2, 131086] = true := by decide +kernel
theorem rd_d_X4_prepareBest_52 : decode tX4_prepareBest.1.2.1 52 = .ok (.iload_n 3, 1) := by decide +kernel
theorem rd_d_X4_prepareBest_53 : decode tX4_prepareBest.1.2.1 53 = .ok (.iload_n 2, 1) := by decide +kernel
theorem rd_d_X4_prepareBest_54 : decode tX4_prepareBest.1.2.1 54 = .ok (.aload_n 0, 1) := by decide +kernel
theorem rd_d_X4_prepareBest_55 : decode tX4_prepareBest.1.2.1 55 = .ok (.getfield 46, 3) := by decide +kernel
theorem rd_k_X4_prepareBest_55 : ex_lk ex_mt tX4_prepareBest 55 (.getfield 46) [4, 0, 2, 131083] = true := by decide +kernel
theorem rd_d_X4_prepareBest_58 : decode tX4_prepareBest.1.2.1 58 = .ok (.invokevirtual 149, 3) := by decide +kernel
theorem rd_k_X4_prepareBest_58 : ex_lk ex_mt tX4_prepareBest 58 (.invokevirtual 149) [0, 286, 262363] = true := by decide +kernel
theorem rd_d_X4_prepareBest_61 : decode tX4_prepareBest.1.2.1 61 = .ok (.invokestatic 134, 3) := by decide +kernel
theorem rd_k_X4_prepareBest_61 : ex_lk ex_mt tX4_prepareBest 61 (.invokestatic 134) [0, 232, 262356] = true := by decide +kernel
theorem rd_d_X4_prepareBest_64 : decode tX4_prepareBest.1.2.1 64 = .ok (.invokestatic 112, 3) := by decide +kernel
theorem rd_k_X4_prepareBest_64 : ex_lk ex_mt tX4_prepareBest 64 (.invokestatic 112) [0, 32, 262344] = true := by decide +kernel
theorem rd_d_X4_prepareBest_67 : decode tX4_prepareBest.1.2.1 67 = .ok (.istore 4, 2) := by decide +kernel
theorem rd_d_X4_prepareBest_69 : decode tX4_prepareBest.1.2.1 69 = .ok (.iload 4, 2) := by decide +kernel
theorem rd_d_X4_prepareBest_71 : decode tX4_prepareBest.1.2.1 71 = .ok (.iload_n 1, 1) := by decide +kernel
theorem rd_d_X4_prepareBest_72 : decode tX4_prepareBest.1.2.1 72 = .ok (.if_icmp .le 16, 3) := by decide +kernel
theorem rd_d_X4_prepareBest_75 : decode tX4_prepareBest.1.2.1 75 = .ok (.iload 4, 2) := by decide +kernel
theorem rd_d_X4_prepareBest_77 : decode tX4_prepareBest.1.2.1 77 = .ok (.istore_n 1, 1) := by decide +kernel
theorem rd_d_X4_prepareBest_78 : decode tX4_prepareBest.1.2.1 78 = .ok (.aload_n 0, 1) := by decide +kernel
theorem rd_d_X4_prepareBest_79 : decode tX4_prepareBest.1.2.1 79 = .ok (.iload_n 2, 1) := by decide +kernel
theorem rd_d_X4_prepareBest_80 : decode tX4_prepareBest.1.2.1 80 = .ok (.putfield 143, 3) := by decide +kernel
theorem rd_k_X4_prepareBest_80 : ex_lk ex_mt tX4_prepareBest 80 (.putfield 143) [4, 13, 0, 131098] = true := by decide +kernel
theorem rd_d_X4_prepareBest_83 : decode tX4_prepareBest.1.2.1 83 = .ok (.aload_n 0, 1) := by decide +kernel
theorem rd_d_X4_prepareBest_84 : decode tX4_prepareBest.1.2.1 84 = .ok (.iload_n 3, 1) := by decide +kernel
theorem rd_d_X4_prepareBest_85 : decode tX4_prepareBest.1.2.1 85 = .ok (.putfield 146, 3) := by decide +kernel
theorem rd_k_X4_prepareBest_85 : ex_lk ex_mt tX4_prepareBest 85 (.putfield 146) [4, 14, 0, 131100] = true := by decide +kernel
theorem rd_d_X4_prepareBest_88 : decode tX4_prepareBest.1.2.1 88 = .ok (.iinc 3 (-1), 3) := by decide +kernel
theorem rd_d_X4_prepareBest_91 : decode tX4_prepareBest.1.2.1 91 = .ok (.goto (-47), 3) := by decide +kernel
theorem rd_d_X4_prepareBest_94 : decode tX4_prepareBest.1.2.1 94 = .ok (.iinc 2 1, 3) := by decide +kernel
theorem rd_d_X4_prepareBest_97 : decode tX4_prepareBest.1.2.1 97 = .ok (.goto (-66), 3) := by decide +kernel
section AXX
variable {g : am_C} {L : Nat} {xs : Nat → Int32}
theorem ax_pbU (G : sx_G0 g L xs z9 hd_C ex_mt) {s : Nat → Int32} (b : pn_B s) (b6 : pl_B6 s) {w : Int32} {ww : Nat} (ew : w.toInt = (ww : Int)) (hW : (ww : Int) < (s 0).toInt) {post : Option (Option Value) → am_S → Prop} : ∀ (r : Nat) (u mo : Int32) (σ : am_S), r ≤ 2 → ax_S σ → pc_X s σ → pk_S s σ.2.1 → u.toInt = (r : Int) - 1 → pb_I true s (2 * ww + (2 - r)) mo (σ.2.1 68 13) (σ.2.1 68 14) → (∀ (σ' : am_S) (u2 mo2 : Int32), ax_S σ' → (∀ x y, ¬ (x = 68 ∧ (y = 13 ∨ y = 14)) → σ'.2.1 x y = σ.2.1 x y) → σ'.2.2 = σ.2.2 → pb_I true s (2 * ww + 2) mo2 (σ'.2.1 68 13) (σ'.2.1 68 14) → am_K g 8 tX4_prepareBest.1 0 0 94 [(3, .int u2), (2, .int w), (1, .int mo2), (0, .ref 68)] [] σ' post) → am_K g 8 tX4_prepareBest.1 0 0 44 [(3, .int u), (2, .int w), (1, .int mo), (0, .ref 68)] [] σ post := by
  have h10 := b.1.1.2
  have z0 : (0 : Int32).toInt = 0 := rfl
  intro r
  induction r with
  | zero =>
    intro u mo σ hr hS hX hst eu hI kk
    refine kr_iload_n 0 rd_d_X4_prepareBest_44 rfl ?_
    refine kr_if_lt (tgt := 94) rd_d_X4_prepareBest_45 rfl (fun h1 => ?_) (fun h1 => ?_)
    · exact kk σ u mo hS (fun _ _ _ => rfl) rfl hI
    · exact absurd (Int32.lt_iff_toInt_lt.mpr (by omega)) h1
  | succ r ih =>
    intro u mo σ hr hS hX hst eu hI kk
    have eu2 : u.toInt = (r : Int) := by omega
    have hbs := pa_bas hX.1 b6
    have eix := pa_sti eu2 ew hbs.1 (by omega) (by omega) hbs.2
    obtain ⟨k, hk1, hk3, hk4⟩ := pk_of (s := s) (a := ww) (up := r) hW
    have hv := hst r k (s 55).toInt.toNat (by omega) hk1 hbs.2
    rw [hk3, hk4] at hv
    have eq1 : (2 * ww + (2 - (r + 1))) / 2 = ww := by omega
    have eq2 : 1 - (2 * ww + (2 - (r + 1))) % 2 = r := by omega
    have hx : (ax_ent (σ.2.1 71) 500 (ax_f_sti u w (ax_f_bas σ.2.1))).toInt = (pb_v s (2 * ww + (2 - (r + 1))) : Int) := by
      rw [ax_ent_in (k := (r * 10 + ww) * 25 + (s 55).toInt.toNat) (by decide) eix (by omega), pb_v, eq1, eq2]
      exact hv
    have I2 := pb_Is (w := w) (v := u) hI hx (by rw [eq1]; exact ew) (by rw [eq2]; exact eu2)
    have eqS : 2 * ww + (2 - (r + 1)) + 1 = 2 * ww + (2 - r) := by omega
    rw [eqS] at I2
    refine kr_iload_n 0 rd_d_X4_prepareBest_44 rfl ?_
    refine kr_if_lt (tgt := 94) rd_d_X4_prepareBest_45 rfl (fun h21 => ?_) (fun h21 => ?_)
    · have := Int32.lt_iff_toInt_lt.mp h21
      omega
    · refine kr_aload_n 3 rd_d_X4_prepareBest_48 rfl ?_
      refine kr_getf G.1 (rd_FL rd_k_X4_prepareBest_49).1 rd_d_X4_prepareBest_49 (hS.1 68 (.inl 4) rfl) (v := .ref 71) (by unfold am_fa; rw [(rd_FL rd_k_X4_prepareBest_49).2]; exact hS.2 68 3 71 rfl) ?_
      refine kr_iload_n 0 rd_d_X4_prepareBest_52 rfl ?_
      refine kr_iload_n 1 rd_d_X4_prepareBest_53 rfl ?_
      refine kr_aload_n 3 rd_d_X4_prepareBest_54 rfl ?_
      refine kr_getf G.1 (rd_FL rd_k_X4_prepareBest_55).1 rd_d_X4_prepareBest_55 (hS.1 68 (.inl 4) rfl) (v := .ref 4) (by unfold am_fa; rw [(rd_FL rd_k_X4_prepareBest_55).2]; exact hS.2 68 0 4 rfl) ?_
      refine rd_call G (T2 := tX9_basket) rfl rd_d_X4_prepareBest_58 rd_k_X4_prepareBest_58 rfl (hS.1 4 (.inl 9) rfl) (as := []) (st := [.int w, .int u, .ref 71]) rfl (Nat.le_of_ble_eq_true rfl) rfl (Nat.le_of_ble_eq_true rfl) (d1 := 2) (by decide) (fun _ h => by cases h.1) (ax_bas G hS) ?_
      intro v41 σ41 ⟨hv41, hs41⟩
      cases hv41
      rw [hs41]
      refine rd_callS G (T2 := tX4_startIndex) rfl rd_d_X4_prepareBest_61 rd_k_X4_prepareBest_61 rfl rfl (as := [.int u, .int w, .int (ax_f_bas σ.2.1)]) (st := [.ref 71]) rfl (Nat.le_of_ble_eq_true rfl) rfl (Nat.le_of_ble_eq_true rfl) (d1 := 1) (by decide) (fun _ h => by cases h.1) (ax_sti G hS u w (ax_f_bas σ.2.1)) ?_
      intro v42 σ42 ⟨hv42, hs42⟩
      cases hv42
      rw [hs42]
      refine rd_callS G (T2 := tX11_entry) rfl rd_d_X4_prepareBest_64 rd_k_X4_prepareBest_64 rfl rfl (as := [.ref 71, .int (ax_f_sti u w (ax_f_bas σ.2.1))]) (st := []) rfl (Nat.le_of_ble_eq_true rfl) rfl (Nat.le_of_ble_eq_true rfl) (d1 := 1) (by decide) (fun _ h => by cases h.1) (ax_entry G (hS.1 71 (.inr (.int, 500)) rfl) (by decide) (ax_f_sti u w (ax_f_bas σ.2.1))) ?_
      intro v43 σ43 ⟨hv43, hs43⟩
      cases hv43
      rw [hs43]
      refine kr_istore (lv' := [(4, .int (ax_ent (σ.2.1 71) 500 (ax_f_sti u w (ax_f_bas σ.2.1)))), (3, .int u), (2, .int w), (1, .int mo), (0, .ref 68)]) rd_d_X4_prepareBest_67 (by decide) rfl ?_
      refine kr_iload 0 rd_d_X4_prepareBest_69 rfl ?_
      refine kr_iload_n 3 rd_d_X4_prepareBest_71 rfl ?_
      refine kr_icmp_le (tgt := 88) rd_d_X4_prepareBest_72 rfl (fun h44 => ?_) (fun h44 => ?_)
      · refine kr_iinc (v := u + (-1)) (lv' := [(3, .int (u + (-1))), (4, .int (ax_ent (σ.2.1 71) 500 (ax_f_sti u w (ax_f_bas σ.2.1)))), (2, .int w), (1, .int mo), (0, .ref 68)]) 1 rd_d_X4_prepareBest_88 rfl rfl (by decide) rfl ?_
        refine kr_goto (tgt := 44) rd_d_X4_prepareBest_91 rfl ?_
        refine kr_sub (lv' := [(3, .int (u + (-1))), (2, .int w), (1, .int mo), (0, .ref 68)]) (by simp) ?_
        exact ih (u + (-1)) mo σ (by omega) hS hX hst (ax_dec (by omega)) (I2.2 (fun q => by have := Int32.le_iff_toInt_le.mp h44; omega)) kk
      · refine kr_iload 0 rd_d_X4_prepareBest_75 rfl ?_
        refine kr_istore_n (lv' := [(1, .int (ax_ent (σ.2.1 71) 500 (ax_f_sti u w (ax_f_bas σ.2.1)))), (4, .int (ax_ent (σ.2.1 71) 500 (ax_f_sti u w (ax_f_bas σ.2.1)))), (3, .int u), (2, .int w), (0, .ref 68)]) rd_d_X4_prepareBest_77 (by decide) rfl ?_
        refine kr_aload_n 4 rd_d_X4_prepareBest_78 rfl ?_
        refine kr_iload_n 3 rd_d_X4_prepareBest_79 rfl ?_
        refine ax_putWL G hS rd_d_X4_prepareBest_80 rd_k_X4_prepareBest_80 (hS.1 68 (.inl 4) rfl) rfl rfl rfl ?_
        intro τ1 hT1 hw1 hf1 hl1
        have hsτ1 : τ1.2.1 120 = σ.2.1 120 := (ax_120F hf1 (by decide))
        have hqτ1 : ax_pl τ1.2.1 = ax_pl σ.2.1 := (ax_plF hf1 (by decide))
        have hLτ1 : τ1.2.2 = σ.2.2 := hl1
        refine kr_aload_n 4 rd_d_X4_prepareBest_83 rfl ?_
        refine kr_iload_n 2 rd_d_X4_prepareBest_84 rfl ?_
        refine ax_putWL G hT1 rd_d_X4_prepareBest_85 rd_k_X4_prepareBest_85 (hT1.1 68 (.inl 4) rfl) rfl rfl rfl ?_
        intro τ2 hT2 hw2 hf2 hl2
        have hsτ2 : τ2.2.1 120 = σ.2.1 120 := (ax_120F hf2 (by decide)).trans hsτ1
        have hqτ2 : ax_pl τ2.2.1 = ax_pl σ.2.1 := (ax_plF hf2 (by decide)).trans hqτ1
        have hLτ2 : τ2.2.2 = σ.2.2 := hl2.trans hLτ1
        refine kr_iinc (v := u + (-1)) (lv' := [(3, .int (u + (-1))), (1, .int (ax_ent (σ.2.1 71) 500 (ax_f_sti u w (ax_f_bas σ.2.1)))), (4, .int (ax_ent (σ.2.1 71) 500 (ax_f_sti u w (ax_f_bas σ.2.1)))), (2, .int w), (0, .ref 68)]) 2 rd_d_X4_prepareBest_88 rfl rfl (by decide) rfl ?_
        refine kr_goto (tgt := 44) rd_d_X4_prepareBest_91 rfl ?_
        refine kr_sub (lv' := [(3, .int (u + (-1))), (2, .int w), (1, .int (ax_ent (σ.2.1 71) 500 (ax_f_sti u w (ax_f_bas σ.2.1)))), (0, .ref 68)]) (by simp) ?_
        have fr : ∀ x y, ¬ (x = 68 ∧ (y = 13 ∨ y = 14)) → τ2.2.1 x y = σ.2.1 x y := (fun x y q => (hf2 x y (fun z => q ⟨z.1, Or.inr z.2⟩)).trans (hf1 x y (fun z => q ⟨z.1, Or.inl z.2⟩)))
        refine ih (u + (-1)) (ax_ent (σ.2.1 71) 500 (ax_f_sti u w (ax_f_bas σ.2.1))) τ2 (by omega) hT2 (pc_F hX (fun x y q => fr x y (fun z => by omega))) (fun UP k f h1 h2 h3 => by rw [fr 71 _ (fun z => absurd z.1 (by decide))]; exact hst UP k f h1 h2 h3) (ax_dec (by omega)) ?_ ?_
        · rw [show τ2.2.1 68 13 = w from (hf2 68 13 (fun q => absurd q.2 (by decide))).trans (hw1), show τ2.2.1 68 14 = u from hw2]
          exact I2.1 (by have : ¬ (ax_ent (σ.2.1 71) 500 (ax_f_sti u w (ax_f_bas σ.2.1))).toInt ≤ mo.toInt := fun q => h44 (Int32.le_iff_toInt_le.mpr q); omega)
        · exact fun σ' u2 mo2 c1 c2 c3 c4 => kk σ' u2 mo2 c1 (fun x y q => (c2 x y q).trans (fr x y q)) (c3.trans hLτ2) c4
theorem ax_pbW (G : sx_G0 g L xs z9 hd_C ex_mt) {s : Nat → Int32} (b : pn_B s) (b6 : pl_B6 s) {post : Option (Option Value) → am_S → Prop} : ∀ (n T : Nat) (w mo : Int32) (σ : am_S), ax_S σ → pc_X s σ → pk_S s σ.2.1 → w.toInt = (T : Int) → T + n = pz_W s → pb_I true s (2 * T) mo (σ.2.1 68 13) (σ.2.1 68 14) → (∀ (σ' : am_S) (w2 mo2 : Int32), ax_S σ' → (∀ x y, ¬ (x = 68 ∧ (y = 13 ∨ y = 14)) → σ'.2.1 x y = σ.2.1 x y) → σ'.2.2 = σ.2.2 → pb_I true s (2 * pz_W s) mo2 (σ'.2.1 68 13) (σ'.2.1 68 14) → am_K g 8 tX4_prepareBest.1 0 0 100 [(2, .int w2), (1, .int mo2), (0, .ref 68)] [] σ' post) → am_K g 8 tX4_prepareBest.1 0 0 31 [(2, .int w), (1, .int mo), (0, .ref 68)] [] σ post := by
  have hs1 := b.1.1
  have hWe : (pz_W s : Int) = (s 0).toInt := by unfold pz_W; omega
  intro n
  induction n with
  | zero =>
    intro T w mo σ hS hX hst ew hn hI kk
    have hW : (σ.2.1 4 7).toInt = (pz_W s : Int) := by rw [hX.1.1]; unfold pz_W; omega
    refine kr_iload_n 0 rd_d_X4_prepareBest_31 rfl ?_
    refine kr_aload_n 2 rd_d_X4_prepareBest_32 rfl ?_
    refine kr_getf G.1 (rd_FL rd_k_X4_prepareBest_33).1 rd_d_X4_prepareBest_33 (hS.1 68 (.inl 4) rfl) (v := .ref 4) (by unfold am_fa; rw [(rd_FL rd_k_X4_prepareBest_33).2]; exact hS.2 68 0 4 rfl) ?_
    refine kr_getf G.1 (rd_FL rd_k_X4_prepareBest_36).1 rd_d_X4_prepareBest_36 (hS.1 4 (.inl 9) rfl) (v := .int (σ.2.1 4 7)) (by unfold am_fa; rw [(rd_FL rd_k_X4_prepareBest_36).2]; rfl) ?_
    refine kr_icmp_ge (tgt := 100) rd_d_X4_prepareBest_39 rfl (fun h1 => ?_) (fun h1 => ?_)
    · have e : T = pz_W s := by omega
      rw [e] at hI
      exact kk σ w mo hS (fun _ _ _ => rfl) rfl hI
    · exact absurd (Int32.le_iff_toInt_le.mpr (by omega)) h1
  | succ n ih =>
    intro T w mo σ hS hX hst ew hn hI kk
    have hW : (σ.2.1 4 7).toInt = (pz_W s : Int) := by rw [hX.1.1]; unfold pz_W; omega
    refine kr_iload_n 0 rd_d_X4_prepareBest_31 rfl ?_
    refine kr_aload_n 2 rd_d_X4_prepareBest_32 rfl ?_
    refine kr_getf G.1 (rd_FL rd_k_X4_prepareBest_33).1 rd_d_X4_prepareBest_33 (hS.1 68 (.inl 4) rfl) (v := .ref 4) (by unfold am_fa; rw [(rd_FL rd_k_X4_prepareBest_33).2]; exact hS.2 68 0 4 rfl) ?_
    refine kr_getf G.1 (rd_FL rd_k_X4_prepareBest_36).1 rd_d_X4_prepareBest_36 (hS.1 4 (.inl 9) rfl) (v := .int (σ.2.1 4 7)) (by unfold am_fa; rw [(rd_FL rd_k_X4_prepareBest_36).2]; rfl) ?_
    refine kr_icmp_ge (tgt := 100) rd_d_X4_prepareBest_39 rfl (fun h21 => ?_) (fun h21 => ?_)
    · have := Int32.le_iff_toInt_le.mp h21
      omega
    · refine kr_iconst (v := 1) rd_d_X4_prepareBest_42 (by decide) ?_
      refine kr_istore_n (lv' := [(3, .int 1), (2, .int w), (1, .int mo), (0, .ref 68)]) rd_d_X4_prepareBest_43 (by decide) rfl ?_
      refine ax_pbU G b b6 ew (by omega) 2 1 mo σ (Nat.le_refl _) hS hX hst rfl hI ?_
      intro σ1 u2 mo2 c1 c2 c3 c4
      refine kr_iinc (v := w + 1) (lv' := [(2, .int (w + 1)), (3, .int u2), (1, .int mo2), (0, .ref 68)]) 1 rd_d_X4_prepareBest_94 rfl rfl (by decide) rfl ?_
      refine kr_goto (tgt := 31) rd_d_X4_prepareBest_97 rfl ?_
      refine kr_sub (lv' := [(2, .int (w + 1)), (1, .int mo2), (0, .ref 68)]) (by simp) ?_
      exact ih (T + 1) (w + 1) mo2 σ1 c1 (pc_F hX (fun x y q => c2 x y (fun z => by omega))) (fun UP k f h1 h2 h3 => by rw [c2 71 _ (fun z => absurd z.1 (by decide))]; exact hst UP k f h1 h2 h3) (ax_inc ew (by omega)) (by omega) c4 (fun σ' w3 mo3 d1 d2 d3 d4 => kk σ' w3 mo3 d1 (fun x y q => (d2 x y q).trans (c2 x y q)) (d3.trans c3) d4)
end AXX
