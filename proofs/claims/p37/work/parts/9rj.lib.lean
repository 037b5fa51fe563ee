/-! exact answers, further (rows written by a program) -/
theorem rd_d_X12_bests_4 : decode tX12_bests.1.2.1 4 = .ok (.iload_n 2, 1) := by decide +kernel
theorem rd_d_X12_bests_5 : decode tX12_bests.1.2.1 5 = .ok (.aload_n 0, 1) := by decide +kernel
theorem rd_d_X12_bests_6 : decode tX12_bests.1.2.1 6 = .ok (.getfield 33, 3) := by decide +kernel
theorem rd_k_X12_bests_6 : ex_lk ex_mt tX12_bests 6 (.getfield 33) [12, 6, 2, 458773] = true := by decide +kernel
theorem rd_d_X12_bests_9 : decode tX12_bests.1.2.1 9 = .ok (.iconst 0, 1) := by decide +kernel
theorem rd_d_X12_bests_10 : decode tX12_bests.1.2.1 10 = .ok (.iaload, 1) := by decide +kernel
theorem rd_d_X12_bests_11 : decode tX12_bests.1.2.1 11 = .ok (.if_icmp .ge 62, 3) := by decide +kernel
theorem rd_d_X12_bests_14 : decode tX12_bests.1.2.1 14 = .ok (.iconst 1, 1) := by decide +kernel
theorem rd_d_X12_bests_15 : decode tX12_bests.1.2.1 15 = .ok (.istore_n 3, 1) := by decide +kernel
theorem rd_d_X12_bests_16 : decode tX12_bests.1.2.1 16 = .ok (.iload_n 3, 1) := by decide +kernel
theorem rd_d_X12_bests_17 : decode tX12_bests.1.2.1 17 = .ok (.ifCond .lt 50, 3) := by decide +kernel
theorem rd_d_X12_bests_20 : decode tX12_bests.1.2.1 20 = .ok (.aload_n 0, 1) := by decide +kernel
theorem rd_d_X12_bests_21 : decode tX12_bests.1.2.1 21 = .ok (.iload_n 2, 1) := by decide +kernel
theorem rd_d_X12_bests_22 : decode tX12_bests.1.2.1 22 = .ok (.aload_n 0, 1) := by decide +kernel
theorem rd_d_X12_bests_23 : decode tX12_bests.1.2.1 23 = .ok (.iload_n 3, 1) := by decide +kernel
theorem rd_d_X12_bests_24 : decode tX12_bests.1.2.1 24 = .ok (.invokevirtual 308, 3) := by decide +kernel
theorem rd_k_X12_bests_24 : ex_lk ex_mt tX12_bests 24 (.invokevirtual 308) [0, 104, 524453] = true := by decide +kernel
theorem rd_d_X12_bests_27 : decode tX12_bests.1.2.1 27 = .ok (.aload_n 0, 1) := by decide +kernel
theorem rd_d_X12_bests_28 : decode tX12_bests.1.2.1 28 = .ok (.getfield 33, 3) := by decide +kernel
theorem rd_k_X12_bests_28 : ex_lk ex_mt tX12_bests 28 (.getfield 33) [12, 6, 2, 458773] = true := by decide +kernel
theorem rd_d_X12_bests_31 : decode tX12_bests.1.2.1 31 = .ok (.bipush 55, 2) := by decide +kernel
theorem rd_d_X12_bests_33 : decode tX12_bests.1.2.1 33 = .ok (.iaload, 1) := by decide +kernel
theorem rd_d_X12_bests_34 : decode tX12_bests.1.2.1 34 = .ok (.invokevirtual 311, 3) := by decide +kernel
theorem rd_k_X12_bests_34 : ex_lk ex_mt tX12_bests 34 (.invokevirtual 311) [0, 153, 524457] = true := by decide +kernel
theorem rd_d_X12_bests_37 : decode tX12_bests.1.2.1 37 = .ok (.istore 4, 2) := by decide +kernel
theorem rd_d_X12_bests_39 : decode tX12_bests.1.2.1 39 = .ok (.iload 4, 2) := by decide +kernel
theorem rd_d_X12_bests_41 : decode tX12_bests.1.2.1 41 = .ok (.iload_n 1, 1) := by decide +kernel
theorem rd_d_X12_bests_42 : decode tX12_bests.1.2.1 42 = .ok (.if_icmp .gt 6, 3) := by decide +kernel
theorem rd_d_X12_bests_45 : decode tX12_bests.1.2.1 45 = .ok (.goto 16, 3) := by decide +kernel
theorem rd_d_X12_bests_48 : decode tX12_bests.1.2.1 48 = .ok (.iload 4, 2) := by decide +kernel
theorem rd_d_X12_bests_50 : decode tX12_bests.1.2.1 50 = .ok (.istore_n 1, 1) := by decide +kernel
theorem rd_d_X12_bests_51 : decode tX12_bests.1.2.1 51 = .ok (.aload_n 0, 1) := by decide +kernel
theorem rd_d_X12_bests_52 : decode tX12_bests.1.2.1 52 = .ok (.iload_n 2, 1) := by decide +kernel
theorem rd_d_X12_bests_53 : decode tX12_bests.1.2.1 53 = .ok (.putfield 314, 3) := by decide +kernel
theorem rd_k_X12_bests_53 : ex_lk ex_mt tX12_bests 53 (.putfield 314) [12, 26, 0, 458793] = true := by decide +kernel
theorem rd_d_X12_bests_56 : decode tX12_bests.1.2.1 56 = .ok (.aload_n 0, 1) := by decide +kernel
theorem rd_d_X12_bests_57 : decode tX12_bests.1.2.1 57 = .ok (.iload_n 3, 1) := by decide +kernel
theorem rd_d_X12_bests_58 : decode tX12_bests.1.2.1 58 = .ok (.putfield 317, 3) := by decide +kernel
theorem rd_k_X12_bests_58 : ex_lk ex_mt tX12_bests 58 (.putfield 317) [12, 27, 0, 458794] = true := by decide +kernel
theorem rd_d_X12_bests_61 : decode tX12_bests.1.2.1 61 = .ok (.iinc 3 (-1), 3) := by decide +kernel
theorem rd_d_X12_bests_64 : decode tX12_bests.1.2.1 64 = .ok (.goto (-48), 3) := by decide +kernel
theorem rd_d_X12_bests_67 : decode tX12_bests.1.2.1 67 = .ok (.iinc 2 1, 3) := by decide +kernel
theorem rd_d_X12_bests_70 : decode tX12_bests.1.2.1 70 = .ok (.goto (-66), 3) := by decide +kernel
theorem rd_d_X12_bests_184 : decode tX12_bests.1.2.1 184 = .ok (.iload 8, 2) := by decide +kernel
theorem rd_d_X12_bests_186 : decode tX12_bests.1.2.1 186 = .ok (.iload 7, 2) := by decide +kernel
theorem rd_d_X12_bests_188 : decode tX12_bests.1.2.1 188 = .ok (.if_icmp .ge 53, 3) := by decide +kernel
theorem rd_d_X12_bests_191 : decode tX12_bests.1.2.1 191 = .ok (.aload_n 0, 1) := by decide +kernel
theorem rd_d_X12_bests_192 : decode tX12_bests.1.2.1 192 = .ok (.getfield 58, 3) := by decide +kernel
theorem rd_k_X12_bests_192 : ex_lk ex_mt tX12_bests 192 (.getfield 58) [12, 25, 2, 458792] = true := by decide +kernel
theorem rd_d_X12_bests_195 : decode tX12_bests.1.2.1 195 = .ok (.aload_n 0, 1) := by decide +kernel
theorem rd_d_X12_bests_196 : decode tX12_bests.1.2.1 196 = .ok (.getfield 320, 3) := by decide +kernel
theorem rd_k_X12_bests_196 : ex_lk ex_mt tX12_bests 196 (.getfield 320) [12, 28, 0, 458795] = true := by decide +kernel
theorem rd_d_X12_bests_199 : decode tX12_bests.1.2.1 199 = .ok (.iload 6, 2) := by decide +kernel
theorem rd_d_X12_bests_201 : decode tX12_bests.1.2.1 201 = .ok (.iastore, 1) := by decide +kernel
theorem rd_d_X12_bests_202 : decode tX12_bests.1.2.1 202 = .ok (.aload_n 0, 1) := by decide +kernel
theorem rd_d_X12_bests_203 : decode tX12_bests.1.2.1 203 = .ok (.getfield 55, 3) := by decide +kernel
theorem rd_k_X12_bests_203 : ex_lk ex_mt tX12_bests 203 (.getfield 55) [12, 24, 2, 458791] = true := by decide +kernel
theorem rd_d_X12_bests_206 : decode tX12_bests.1.2.1 206 = .ok (.aload_n 0, 1) := by decide +kernel
theorem rd_d_X12_bests_207 : decode tX12_bests.1.2.1 207 = .ok (.getfield 320, 3) := by decide +kernel
theorem rd_k_X12_bests_207 : ex_lk ex_mt tX12_bests 207 (.getfield 320) [12, 28, 0, 458795] = true := by decide +kernel
theorem rd_d_X12_bests_210 : decode tX12_bests.1.2.1 210 = .ok (.iload_n 3, 1) := by decide +kernel
theorem rd_d_X12_bests_211 : decode tX12_bests.1.2.1 211 = .ok (.iastore, 1) := by decide +kernel
theorem rd_d_X12_bests_212 : decode tX12_bests.1.2.1 212 = .ok (.aload_n 0, 1) := by decide +kernel
theorem rd_d_X12_bests_213 : decode tX12_bests.1.2.1 213 = .ok (.dup, 1) := by decide +kernel
theorem rd_d_X12_bests_214 : decode tX12_bests.1.2.1 214 = .ok (.getfield 320, 3) := by decide +kernel
theorem rd_k_X12_bests_214 : ex_lk ex_mt tX12_bests 214 (.getfield 320) [12, 28, 0, 458795] = true := by decide +kernel
theorem rd_d_X12_bests_217 : decode tX12_bests.1.2.1 217 = .ok (.iconst 1, 1) := by decide +kernel
theorem rd_d_X12_bests_218 : decode tX12_bests.1.2.1 218 = .ok (.iadd, 1) := by decide +kernel
theorem rd_d_X12_bests_219 : decode tX12_bests.1.2.1 219 = .ok (.putfield 320, 3) := by decide +kernel
theorem rd_k_X12_bests_219 : ex_lk ex_mt tX12_bests 219 (.putfield 320) [12, 28, 0, 458795] = true := by decide +kernel
theorem rd_d_X12_bests_222 : decode tX12_bests.1.2.1 222 = .ok (.iload_n 3, 1) := by decide +kernel
theorem rd_d_X12_bests_223 : decode tX12_bests.1.2.1 223 = .ok (.aload_n 0, 1) := by decide +kernel
theorem rd_d_X12_bests_224 : decode tX12_bests.1.2.1 224 = .ok (.getfield 33, 3) := by decide +kernel
theorem rd_k_X12_bests_224 : ex_lk ex_mt tX12_bests 224 (.getfield 33) [12, 6, 2, 458773] = true := by decide +kernel
theorem rd_d_X12_bests_227 : decode tX12_bests.1.2.1 227 = .ok (.bipush 12, 2) := by decide +kernel
theorem rd_d_X12_bests_229 : decode tX12_bests.1.2.1 229 = .ok (.iload 6, 2) := by decide +kernel
theorem rd_d_X12_bests_231 : decode tX12_bests.1.2.1 231 = .ok (.iadd, 1) := by decide +kernel
theorem rd_d_X12_bests_232 : decode tX12_bests.1.2.1 232 = .ok (.iaload, 1) := by decide +kernel
theorem rd_d_X12_bests_233 : decode tX12_bests.1.2.1 233 = .ok (.iadd, 1) := by decide +kernel
theorem rd_d_X12_bests_234 : decode tX12_bests.1.2.1 234 = .ok (.istore_n 3, 1) := by decide +kernel
theorem rd_d_X12_bests_235 : decode tX12_bests.1.2.1 235 = .ok (.iinc 8 1, 3) := by decide +kernel
theorem rd_d_X12_bests_238 : decode tX12_bests.1.2.1 238 = .ok (.goto (-54), 3) := by decide +kernel
section AXX
variable {g : am_C} {L : Nat} {xs : Nat → Int32}
theorem ax_mbU (G : sx_G0 g L xs z9 hd_C ex_mt) {s : Nat → Int32} (b : pn_B s) (b6 : pl_B6 s) {w : Int32} {ww : Nat} (ew : w.toInt = (ww : Int)) (hW : ww < pz_W s) {post : Option (Option Value) → am_S → Prop} : ∀ (r : Nat) (u mo : Int32) (σ : am_S), r ≤ 2 → ax_S σ → σ.2.1 120 = s → u.toInt = (r : Int) - 1 → pb_I false s (2 * ww + (2 - r)) mo (σ.2.1 118 26) (σ.2.1 118 27) → (∀ (σ' : am_S) (u2 mo2 : Int32), ax_S σ' → (∀ x y, x ≠ 125 → x ≠ 126 → ¬ (x = 118 ∧ (y = 26 ∨ y = 27)) → σ'.2.1 x y = σ.2.1 x y) → pb_I false s (2 * ww + 2) mo2 (σ'.2.1 118 26) (σ'.2.1 118 27) → am_K g 10 tX12_bests.1 0 0 67 [(3, .int u2), (2, .int w), (1, .int mo2), (0, .ref 118)] [] σ' post) → am_K g 10 tX12_bests.1 0 0 16 [(3, .int u), (2, .int w), (1, .int mo), (0, .ref 118)] [] σ post := by
  have hs1 := b.1.1
  have hWe : (s 0).toInt = (pz_W s : Int) := by unfold pz_W; omega
  have z0 : (0 : Int32).toInt = 0 := rfl
  have z1 : (1 : Int32).toInt = 1 := rfl
  have hb6 := id b6
  have e55 : (s 55).toInt = ((s 55).toInt.toNat : Int) := by unfold pl_B6 at hb6; omega
  have h24 : (s 55).toInt.toNat ≤ 24 := by unfold pl_B6 at hb6; omega
  intro r
  induction r with
  | zero =>
    intro u mo σ hr hS hs eu hI kk
    refine kr_iload_n 0 rd_d_X12_bests_16 rfl ?_
    refine kr_if_lt (tgt := 67) rd_d_X12_bests_17 rfl (fun h1 => ?_) (fun h1 => ?_)
    · exact kk σ u mo hS (fun _ _ _ _ _ => rfl) hI
    · exact absurd (Int32.lt_iff_toInt_lt.mpr (by omega)) h1
  | succ r ih =>
    intro u mo σ hr hS hs eu hI kk
    have eu2 : u.toInt = (r : Int) := by omega
    have eq1 : (2 * ww + (2 - (r + 1))) / 2 = ww := by omega
    have eq2 : 1 - (2 * ww + (2 - (r + 1))) % 2 = r := by omega
    have eqS : 2 * ww + (2 - (r + 1)) + 1 = 2 * ww + (2 - r) := by omega
    have eun : u.toInt.toNat = r := by omega
    have ee : (ax_f_end s u).toInt = ((if r = 1 then pz_W s - 1 else 0 : Nat) : Int) := by
      have h := pz_end (e := u) hWe (by omega) ⟨by omega, by omega⟩
      rw [eun] at h
      exact h
    have hB : pn_B (σ.2.1 120) := by rw [hs]; exact b
    refine kr_iload_n 0 rd_d_X12_bests_16 rfl ?_
    refine kr_if_lt (tgt := 67) rd_d_X12_bests_17 rfl (fun h21 => ?_) (fun h21 => ?_)
    · have := Int32.lt_iff_toInt_lt.mp h21
      omega
    · refine kr_aload_n 3 rd_d_X12_bests_20 rfl ?_
      refine kr_iload_n 1 rd_d_X12_bests_21 rfl ?_
      refine kr_aload_n 3 rd_d_X12_bests_22 rfl ?_
      refine kr_iload_n 0 rd_d_X12_bests_23 rfl ?_
      refine rd_call G (T2 := tX12_endOf) rfl rd_d_X12_bests_24 rd_k_X12_bests_24 rfl (hS.1 118 (.inl 12) rfl) (as := [.int u]) (st := [.int w, .ref 118]) rfl (Nat.le_of_ble_eq_true rfl) rfl (Nat.le_of_ble_eq_true rfl) (d1 := 1) (by decide) (fun _ h => by cases h.1) (ax_end G hS u) ?_
      intro v41 σ41 ⟨hv41, hs41⟩
      cases hv41
      rw [hs41]
      refine kr_aload_n 3 rd_d_X12_bests_27 rfl ?_
      refine kr_getf G.1 (rd_FL rd_k_X12_bests_28).1 rd_d_X12_bests_28 (hS.1 118 (.inl 12) rfl) (v := .ref 120) (by unfold am_fa; rw [(rd_FL rd_k_X12_bests_28).2]; exact hS.2 118 6 120 rfl) ?_
      refine kr_bipush (v := 55) rd_d_X12_bests_31 (by decide) ?_
      refine kr_iald G.1 (n := 277) rd_d_X12_bests_33 (hS.1 120 (.inr (.int, 277)) rfl) (hd_in (n := 55) (by decide) (by decide)) ?_
      rw [hd_clamp (n := 55) (by decide)]
      rw [hs]
      refine rd_call G (T2 := tX12_planOf) rfl rd_d_X12_bests_34 rd_k_X12_bests_34 rfl (hS.1 118 (.inl 12) rfl) (as := [.int w, .int (ax_f_end (s) u), .int (s 55)]) (st := []) rfl (Nat.le_of_ble_eq_true rfl) rfl (Nat.le_of_ble_eq_true rfl) (d1 := 8) (by decide) (fun _ h => by obtain ⟨⟨y, h, -⟩, -⟩ := h; cases h) (ax_pof G hS (aa := ww) (bb := if r = 1 then pz_W s - 1 else 0) (F := (s 55).toInt.toNat) ew ee e55 (by omega) (by split <;> omega) h24 hB) ?_
      intro v1 τ ⟨⟨y, hv1, hy⟩, hT, hfP, _⟩
      cases hv1
      rw [hs, pz_rowM hWe hW] at hy
      have hx : y.toInt = (pb_v s (2 * ww + (2 - (r + 1))) : Int) := by rw [pb_v, eq1, eq2]; exact hy
      have hI1 : pb_I false s (2 * ww + (2 - (r + 1))) mo (τ.2.1 118 26) (τ.2.1 118 27) := by rw [hfP 118 26 (by decide) (by decide), hfP 118 27 (by decide) (by decide)]; exact hI
      have I2 := pb_Is (w := w) (v := u) hI1 hx (by rw [eq1]; exact ew) (by rw [eq2]; exact eu2)
      rw [eqS] at I2
      have hs2 : τ.2.1 120 = s := (funext fun q => hfP 120 q (by decide) (by decide)).trans hs
      refine kr_istore (lv' := [(4, .int y), (3, .int u), (2, .int w), (1, .int mo), (0, .ref 118)]) rd_d_X12_bests_37 (by decide) rfl ?_
      refine kr_iload 0 rd_d_X12_bests_39 rfl ?_
      refine kr_iload_n 3 rd_d_X12_bests_41 rfl ?_
      refine kr_icmp_gt (tgt := 48) rd_d_X12_bests_42 rfl (fun h42 => ?_) (fun h42 => ?_)
      · refine kr_iload 0 rd_d_X12_bests_48 rfl ?_
        refine kr_istore_n (lv' := [(1, .int y), (4, .int y), (3, .int u), (2, .int w), (0, .ref 118)]) rd_d_X12_bests_50 (by decide) rfl ?_
        refine kr_aload_n 4 rd_d_X12_bests_51 rfl ?_
        refine kr_iload_n 3 rd_d_X12_bests_52 rfl ?_
        refine ax_putWL G hT rd_d_X12_bests_53 rd_k_X12_bests_53 (hT.1 118 (.inl 12) rfl) rfl rfl rfl ?_
        intro τ1 hT1 hw1 hf1 hl1
        have hsτ1 : τ1.2.1 120 = τ.2.1 120 := (ax_120F hf1 (by decide))
        have hqτ1 : ax_pl τ1.2.1 = ax_pl τ.2.1 := (ax_plF hf1 (by decide))
        have hLτ1 : τ1.2.2 = τ.2.2 := hl1
        refine kr_aload_n 4 rd_d_X12_bests_56 rfl ?_
        refine kr_iload_n 2 rd_d_X12_bests_57 rfl ?_
        refine ax_putWL G hT1 rd_d_X12_bests_58 rd_k_X12_bests_58 (hT1.1 118 (.inl 12) rfl) rfl rfl rfl ?_
        intro τ2 hT2 hw2 hf2 hl2
        have hsτ2 : τ2.2.1 120 = τ.2.1 120 := (ax_120F hf2 (by decide)).trans hsτ1
        have hqτ2 : ax_pl τ2.2.1 = ax_pl τ.2.1 := (ax_plF hf2 (by decide)).trans hqτ1
        have hLτ2 : τ2.2.2 = τ.2.2 := hl2.trans hLτ1
        refine kr_iinc (v := u + (-1)) (lv' := [(3, .int (u + (-1))), (1, .int y), (4, .int y), (2, .int w), (0, .ref 118)]) 2 rd_d_X12_bests_61 rfl rfl (by decide) rfl ?_
        refine kr_goto (tgt := 16) rd_d_X12_bests_64 rfl ?_
        refine kr_sub (lv' := [(3, .int (u + (-1))), (2, .int w), (1, .int y), (0, .ref 118)]) (by simp) ?_
        have fr : ∀ x y, ¬ (x = 118 ∧ (y = 26 ∨ y = 27)) → τ2.2.1 x y = τ.2.1 x y := fun x y q => (hf2 x y (fun z => q ⟨z.1, Or.inr z.2⟩)).trans (hf1 x y (fun z => q ⟨z.1, Or.inl z.2⟩))
        refine ih (u + (-1)) y τ2 (by omega) hT2 ((funext fun q => fr 120 q (fun z => absurd z.1 (by decide))).trans hs2) (ax_dec (by omega)) ?_ ?_
        · rw [show τ2.2.1 118 26 = w from (hf2 118 26 (fun q => absurd q.2 (by decide))).trans (hw1), show τ2.2.1 118 27 = u from hw2]
          exact I2.1 (Int32.lt_iff_toInt_lt.mp h42)
        · exact fun σ' u2 mo2 c1 c2 c4 => kk σ' u2 mo2 c1 (fun x y x5 x6 q => (c2 x y x5 x6 q).trans ((fr x y q).trans (hfP x y x5 x6))) c4
      · refine kr_goto (tgt := 61) rd_d_X12_bests_45 rfl ?_
        refine kr_iinc (v := u + (-1)) (lv' := [(3, .int (u + (-1))), (4, .int y), (2, .int w), (1, .int mo), (0, .ref 118)]) 1 rd_d_X12_bests_61 rfl rfl (by decide) rfl ?_
        refine kr_goto (tgt := 16) rd_d_X12_bests_64 rfl ?_
        refine kr_sub (lv' := [(3, .int (u + (-1))), (2, .int w), (1, .int mo), (0, .ref 118)]) (by simp) ?_
        exact ih (u + (-1)) mo τ (by omega) hT hs2 (ax_dec (by omega)) (I2.2 (fun q => h42 (Int32.lt_iff_toInt_lt.mpr q))) (fun σ' u2 mo2 c1 c2 c4 => kk σ' u2 mo2 c1 (fun x y x5 x6 q => (c2 x y x5 x6 q).trans (hfP x y x5 x6)) c4)
theorem ax_mbW (G : sx_G0 g L xs z9 hd_C ex_mt) {s : Nat → Int32} (b : pn_B s) (b6 : pl_B6 s) {post : Option (Option Value) → am_S → Prop} : ∀ (n T : Nat) (w mo : Int32) (σ : am_S), ax_S σ → σ.2.1 120 = s → w.toInt = (T : Int) → T + n = pz_W s → pb_I false s (2 * T) mo (σ.2.1 118 26) (σ.2.1 118 27) → (∀ (σ' : am_S) (w2 mo2 : Int32), ax_S σ' → (∀ x y, x ≠ 125 → x ≠ 126 → ¬ (x = 118 ∧ (y = 26 ∨ y = 27)) → σ'.2.1 x y = σ.2.1 x y) → pb_I false s (2 * pz_W s) mo2 (σ'.2.1 118 26) (σ'.2.1 118 27) → am_K g 10 tX12_bests.1 0 0 73 [(2, .int w2), (1, .int mo2), (0, .ref 118)] [] σ' post) → am_K g 10 tX12_bests.1 0 0 4 [(2, .int w), (1, .int mo), (0, .ref 118)] [] σ post := by
  have hs1 := b.1.1
  have hWe : (s 0).toInt = (pz_W s : Int) := by unfold pz_W; omega
  intro n
  induction n with
  | zero =>
    intro T w mo σ hS hs ew hn hI kk
    have hW : (σ.2.1 120 0).toInt = (pz_W s : Int) := by rw [hs]; exact hWe
    refine kr_iload_n 0 rd_d_X12_bests_4 rfl ?_
    refine kr_aload_n 2 rd_d_X12_bests_5 rfl ?_
    refine kr_getf G.1 (rd_FL rd_k_X12_bests_6).1 rd_d_X12_bests_6 (hS.1 118 (.inl 12) rfl) (v := .ref 120) (by unfold am_fa; rw [(rd_FL rd_k_X12_bests_6).2]; exact hS.2 118 6 120 rfl) ?_
    refine kr_iconst (v := 0) rd_d_X12_bests_9 (by decide) ?_
    refine kr_iald G.1 (n := 277) rd_d_X12_bests_10 (hS.1 120 (.inr (.int, 277)) rfl) (hd_in (n := 0) (by decide) (by decide)) ?_
    rw [hd_clamp (n := 0) (by decide)]
    refine kr_icmp_ge (tgt := 73) rd_d_X12_bests_11 rfl (fun h1 => ?_) (fun h1 => ?_)
    · have e : T = pz_W s := by omega
      rw [e] at hI
      exact kk σ w mo hS (fun _ _ _ _ _ => rfl) hI
    · exact absurd (Int32.le_iff_toInt_le.mpr (by omega)) h1
  | succ n ih =>
    intro T w mo σ hS hs ew hn hI kk
    have hW : (σ.2.1 120 0).toInt = (pz_W s : Int) := by rw [hs]; exact hWe
    refine kr_iload_n 0 rd_d_X12_bests_4 rfl ?_
    refine kr_aload_n 2 rd_d_X12_bests_5 rfl ?_
    refine kr_getf G.1 (rd_FL rd_k_X12_bests_6).1 rd_d_X12_bests_6 (hS.1 118 (.inl 12) rfl) (v := .ref 120) (by unfold am_fa; rw [(rd_FL rd_k_X12_bests_6).2]; exact hS.2 118 6 120 rfl) ?_
    refine kr_iconst (v := 0) rd_d_X12_bests_9 (by decide) ?_
    refine kr_iald G.1 (n := 277) rd_d_X12_bests_10 (hS.1 120 (.inr (.int, 277)) rfl) (hd_in (n := 0) (by decide) (by decide)) ?_
    rw [hd_clamp (n := 0) (by decide)]
    refine kr_icmp_ge (tgt := 73) rd_d_X12_bests_11 rfl (fun h21 => ?_) (fun h21 => ?_)
    · have := Int32.le_iff_toInt_le.mp h21
      omega
    · refine kr_iconst (v := 1) rd_d_X12_bests_14 (by decide) ?_
      refine kr_istore_n (lv' := [(3, .int 1), (2, .int w), (1, .int mo), (0, .ref 118)]) rd_d_X12_bests_15 (by decide) rfl ?_
      refine ax_mbU G b b6 ew (by omega) 2 1 mo σ (Nat.le_refl _) hS hs rfl hI ?_
      intro σ1 u2 mo2 c1 c2 c4
      refine kr_iinc (v := w + 1) (lv' := [(2, .int (w + 1)), (3, .int u2), (1, .int mo2), (0, .ref 118)]) 1 rd_d_X12_bests_67 rfl rfl (by decide) rfl ?_
      refine kr_goto (tgt := 4) rd_d_X12_bests_70 rfl ?_
      refine kr_sub (lv' := [(2, .int (w + 1)), (1, .int mo2), (0, .ref 118)]) (by simp) ?_
      exact ih (T + 1) (w + 1) mo2 σ1 c1 ((funext fun q => c2 120 q (by decide) (by decide) (fun z => absurd z.1 (by decide))).trans hs) (ax_inc ew (by omega)) (by omega) c4 (fun σ' w3 mo3 d1 d2 d4 => kk σ' w3 mo3 d1 (fun x y x5 x6 q => (d2 x y x5 x6 q).trans (c2 x y x5 x6 q)) d4)
/-- the sales that the reference notes -/
def pb_M (l : List (Nat × Nat)) (m : Nat → Nat → Int32) : Prop := (m 118 28).toInt = (l.length : Int) ∧ ∀ i, i < l.length → (m 128 i).toInt = ((l.getD i (0, 0)).1 : Int) ∧ (m 127 i).toInt = ((l.getD i (0, 0)).2 : Int)
theorem pb_M1 {l : List (Nat × Nat)} {m m' : Nat → Nat → Int32} {w t : Nat} (h : pb_M l m) (e8 : (m' 118 28).toInt = ((l.length + 1 : Nat) : Int)) (e5 : (m' 128 l.length).toInt = (w : Int)) (e6 : (m' 127 l.length).toInt = (t : Int)) (f : ∀ x i, (x = 127 ∨ x = 128) → i < l.length → m' x i = m x i) : pb_M (l ++ [(w, t)]) m' := by
  refine ⟨by rw [List.length_append]; exact e8, fun i hi => ?_⟩
  rw [List.length_append] at hi
  have hi' : i < l.length + 1 := hi
  by_cases e : i = l.length
  · subst e
    rw [gd_r]
    exact ⟨e5, e6⟩
  · have hl : i < l.length := by omega
    rw [gd_l hl, f 128 i (Or.inr rfl) hl, f 127 i (Or.inl rfl) hl]
    exact h.2 i hl
theorem br_M {s : Nat → Int32} {U A K : Nat} (hU : U ≤ 1) (hA : A < pz_W s) : pn_M A (if U = 1 then pz_W s - 1 else 0) = br_n s U A ∧ pn_ws (pn_win A (if U = 1 then pz_W s - 1 else 0)) (br_n s U A - K) K = br s U A K := by
  unfold br_n br
  by_cases u : U = 1
  · simp only [if_pos u]
    have h : A ≤ pz_W s - 1 := by omega
    refine ⟨by unfold pn_M; rw [if_pos h]; omega, pn_up h _ _⟩
  · simp only [if_neg u]
    by_cases z : A = 0
    · subst z
      refine ⟨rfl, ?_⟩
      cases K with
      | zero => rfl
      | succ K => rw [show 0 + 1 - (K + 1) = 0 by omega]; rfl
    · have h : ¬ A ≤ 0 := by omega
      refine ⟨by unfold pn_M; rw [if_neg h]; omega, pn_dn h _ _⟩
theorem ax_mbS (G : sx_G0 g L xs z9 hd_C ex_mt) {s : Nat → Int32} (b : pn_B s) {w mn i f to mo : Int32} {ww N T : Nat} {l : List (Nat × Nat)} (ew : w.toInt = (ww : Int)) (hW : (ww : Int) < (s 0).toInt) (emn : mn.toInt = (N : Int)) (hN3 : N ≤ 3) (hT : T ≤ 1000) (hl : l.length + N ≤ 24) {post : Option (Option Value) → am_S → Prop} : ∀ (n j : Nat) (q t : Int32) (σ : am_S), ax_S σ → σ.2.1 120 = s → q.toInt = (j : Int) → j + n = N → t.toInt = ((T + j * pn_tk s ww : Nat) : Int) → pb_M (l ++ pz_rep ww T (pn_tk s ww) j) σ.2.1 → (∀ (σ' : am_S) (q2 t2 : Int32), ax_S σ' → (∀ x y, ¬ (x = 118 ∧ y = 28) → x ≠ 127 → x ≠ 128 → σ'.2.1 x y = σ.2.1 x y) → t2.toInt = ((T + N * pn_tk s ww : Nat) : Int) → pb_M (l ++ pz_rep ww T (pn_tk s ww) N) σ'.2.1 → am_K g 10 tX12_bests.1 0 0 241 [(8, .int q2), (7, .int mn), (6, .int w), (5, .int i), (4, .int f), (3, .int t2), (2, .int to), (1, .int mo), (0, .ref 118)] [] σ' post) → am_K g 10 tX12_bests.1 0 0 184 [(8, .int q), (7, .int mn), (6, .int w), (5, .int i), (4, .int f), (3, .int t), (2, .int to), (1, .int mo), (0, .ref 118)] [] σ post := by
  have h10 : ww < 10 := by have := b.1.1.2; omega
  have tk9 := (pn_lim b h10).2.1
  have c3 := b.2.2.1 ww h10
  have etk : (s (12 + ww)).toInt = (pn_tk s ww : Int) := by unfold pn_tk; omega
  intro n
  induction n with
  | zero =>
    intro j q t σ hS hs eq hn et hL kk
    refine kr_iload 0 rd_d_X12_bests_184 rfl ?_
    refine kr_iload 1 rd_d_X12_bests_186 rfl ?_
    refine kr_icmp_ge (tgt := 241) rd_d_X12_bests_188 rfl (fun h1 => ?_) (fun h1 => ?_)
    · have e : j = N := by omega
      subst e
      exact kk σ q t hS (fun _ _ _ _ _ => rfl) et hL
    · exact absurd (Int32.le_iff_toInt_le.mpr (by omega)) h1
  | succ n ih =>
    intro j q t σ hS hs eq hn et hL kk
    have hlen : (l ++ pz_rep ww T (pn_tk s ww) j).length = l.length + j := by rw [List.length_append, rep_len]
    have hn8 := hL.1
    rw [hlen] at hn8
    have hjk : j * pn_tk s ww ≤ 3 * 9 := Nat.mul_le_mul (by omega) tk9
    have eiw : (12 + w).toInt = ((12 + ww : Nat) : Int) := ch_ixw (C := 12) rfl (by decide) ew (by omega)
    refine kr_iload 0 rd_d_X12_bests_184 rfl ?_
    refine kr_iload 1 rd_d_X12_bests_186 rfl ?_
    refine kr_icmp_ge (tgt := 241) rd_d_X12_bests_188 rfl (fun h21 => ?_) (fun h21 => ?_)
    · have := Int32.le_iff_toInt_le.mp h21
      omega
    · refine kr_aload_n 8 rd_d_X12_bests_191 rfl ?_
      refine kr_getf G.1 (rd_FL rd_k_X12_bests_192).1 rd_d_X12_bests_192 (hS.1 118 (.inl 12) rfl) (v := .ref 128) (by unfold am_fa; rw [(rd_FL rd_k_X12_bests_192).2]; exact hS.2 118 25 128 rfl) ?_
      refine kr_aload_n 8 rd_d_X12_bests_195 rfl ?_
      refine kr_getf G.1 (rd_FL rd_k_X12_bests_196).1 rd_d_X12_bests_196 (hS.1 118 (.inl 12) rfl) (v := .int (σ.2.1 118 28)) (by unfold am_fa; rw [(rd_FL rd_k_X12_bests_196).2]; rfl) ?_
      refine kr_iload 2 rd_d_X12_bests_199 rfl ?_
      refine ax_astWL G hS rd_d_X12_bests_201 (n := 24) (hS.1 128 (.inr (.int, 24)) rfl) (ix := l.length + j) hn8 (by omega) ?_
      intro τ1 hT1 hw1 hf1 hl1
      have hsτ1 : τ1.2.1 120 = σ.2.1 120 := (ax_120F hf1 (by decide))
      have hqτ1 : ax_pl τ1.2.1 = ax_pl σ.2.1 := (ax_plF hf1 (by decide))
      have hLτ1 : τ1.2.2 = σ.2.2 := hl1
      refine kr_aload_n 8 rd_d_X12_bests_202 rfl ?_
      refine kr_getf G.1 (rd_FL rd_k_X12_bests_203).1 rd_d_X12_bests_203 (hT1.1 118 (.inl 12) rfl) (v := .ref 127) (by unfold am_fa; rw [(rd_FL rd_k_X12_bests_203).2]; exact hT1.2 118 24 127 rfl) ?_
      refine kr_aload_n 8 rd_d_X12_bests_206 rfl ?_
      refine kr_getf G.1 (rd_FL rd_k_X12_bests_207).1 rd_d_X12_bests_207 (hT1.1 118 (.inl 12) rfl) (v := .int (σ.2.1 118 28)) (by unfold am_fa; rw [(rd_FL rd_k_X12_bests_207).2]; exact congrArg Value.int (hf1 118 28 (fun q => absurd q.1 (by decide)))) ?_
      refine kr_iload_n 5 rd_d_X12_bests_210 rfl ?_
      refine ax_astWL G hT1 rd_d_X12_bests_211 (n := 24) (hT1.1 127 (.inr (.int, 24)) rfl) (ix := l.length + j) hn8 (by omega) ?_
      intro τ2 hT2 hw2 hf2 hl2
      have hsτ2 : τ2.2.1 120 = σ.2.1 120 := (ax_120F hf2 (by decide)).trans hsτ1
      have hqτ2 : ax_pl τ2.2.1 = ax_pl σ.2.1 := (ax_plF hf2 (by decide)).trans hqτ1
      have hLτ2 : τ2.2.2 = σ.2.2 := hl2.trans hLτ1
      refine kr_aload_n 8 rd_d_X12_bests_212 rfl ?_
      refine kr_dup rd_d_X12_bests_213 rfl ?_
      refine kr_getf G.1 (rd_FL rd_k_X12_bests_214).1 rd_d_X12_bests_214 (hT2.1 118 (.inl 12) rfl) (v := .int (σ.2.1 118 28)) (by unfold am_fa; rw [(rd_FL rd_k_X12_bests_214).2]; exact congrArg Value.int ((hf2 118 28 (fun q => absurd q.1 (by decide))).trans (hf1 118 28 (fun q => absurd q.1 (by decide))))) ?_
      refine kr_iconst (v := 1) rd_d_X12_bests_217 (by decide) ?_
      refine kr_iadd rd_d_X12_bests_218 ?_
      refine ax_putWL G hT2 rd_d_X12_bests_219 rd_k_X12_bests_219 (hT2.1 118 (.inl 12) rfl) rfl rfl rfl ?_
      intro τ3 hT3 hw3 hf3 hl3
      have hsτ3 : τ3.2.1 120 = σ.2.1 120 := (ax_120F hf3 (by decide)).trans hsτ2
      have hqτ3 : ax_pl τ3.2.1 = ax_pl σ.2.1 := (ax_plF hf3 (by decide)).trans hqτ2
      have hLτ3 : τ3.2.2 = σ.2.2 := hl3.trans hLτ2
      refine kr_iload_n 5 rd_d_X12_bests_222 rfl ?_
      refine kr_aload_n 8 rd_d_X12_bests_223 rfl ?_
      refine kr_getf G.1 (rd_FL rd_k_X12_bests_224).1 rd_d_X12_bests_224 (hT3.1 118 (.inl 12) rfl) (v := .ref 120) (by unfold am_fa; rw [(rd_FL rd_k_X12_bests_224).2]; exact hT3.2 118 6 120 rfl) ?_
      refine kr_bipush (v := 12) rd_d_X12_bests_227 (by decide) ?_
      refine kr_iload 2 rd_d_X12_bests_229 rfl ?_
      refine kr_iadd rd_d_X12_bests_231 ?_
      refine kr_iald G.1 (n := 277) rd_d_X12_bests_232 (hT3.1 120 (.inr (.int, 277)) rfl) (hd_in (n := 12 + ww) eiw (by omega)) ?_
      rw [hd_clamp (n := 12 + ww) eiw]
      rw [show τ3.2.1 120 (12 + ww) = σ.2.1 120 (12 + ww) from (hf3 120 (12 + ww) (fun q => absurd q.1 (by decide))).trans ((hf2 120 (12 + ww) (fun q => absurd q.1 (by decide))).trans (hf1 120 (12 + ww) (fun q => absurd q.1 (by decide))))]
      refine kr_iadd rd_d_X12_bests_233 ?_
      refine kr_istore_n (lv' := [(3, .int (t + (σ.2.1 120 (12 + ww)))), (8, .int q), (7, .int mn), (6, .int w), (5, .int i), (4, .int f), (2, .int to), (1, .int mo), (0, .ref 118)]) rd_d_X12_bests_234 (by decide) rfl ?_
      refine kr_iinc (v := q + 1) (lv' := [(8, .int (q + 1)), (3, .int (t + (σ.2.1 120 (12 + ww)))), (7, .int mn), (6, .int w), (5, .int i), (4, .int f), (2, .int to), (1, .int mo), (0, .ref 118)]) 1 rd_d_X12_bests_235 rfl rfl (by decide) rfl ?_
      refine kr_goto (tgt := 184) rd_d_X12_bests_238 rfl ?_
      have fr : ∀ x y, ¬ (x = 118 ∧ y = 28) → x ≠ 127 → x ≠ 128 → τ3.2.1 x y = σ.2.1 x y := fun x y h x7 x8 => (hf3 x y (fun z => h ⟨z.1, z.2⟩)).trans ((hf2 x y (fun z => x7 z.1)).trans (hf1 x y (fun z => x8 z.1)))
      refine kr_sub (lv' := [(8, .int (q + 1)), (7, .int mn), (6, .int w), (5, .int i), (4, .int f), (3, .int (t + (σ.2.1 120 (12 + ww)))), (2, .int to), (1, .int mo), (0, .ref 118)]) (by simp) ?_
      have et2 : (t + (σ.2.1 120 (12 + ww))).toInt = ((T + (j + 1) * pn_tk s ww : Nat) : Int) := by
        have e := ch_add et (show (σ.2.1 120 (12 + ww)).toInt = (pn_tk s ww : Int) by rw [hs]; exact etk) (by omega)
        have e2 : (j + 1) * pn_tk s ww = j * pn_tk s ww + pn_tk s ww := Nat.succ_mul _ _
        rw [e, e2, Nat.add_assoc]
      have hL1 : pb_M (l ++ pz_rep ww T (pn_tk s ww) (j + 1)) τ3.2.1 := by
        show pb_M (l ++ (pz_rep ww T (pn_tk s ww) j ++ [(ww, T + j * pn_tk s ww)])) τ3.2.1
        rw [← List.append_assoc]
        refine pb_M1 hL (by rw [hlen, show τ3.2.1 118 28 = σ.2.1 118 28 + 1 from hw3]; exact ch_add hn8 (y := 1) (b := 1) rfl (by omega)) (by rw [hlen, show τ3.2.1 128 (l.length + j) = w from (hf3 128 (l.length + j) (fun q => absurd q.1 (by decide))).trans ((hf2 128 (l.length + j) (fun q => absurd q.1 (by decide))).trans (hw1))]; exact ew) (by rw [hlen, show τ3.2.1 127 (l.length + j) = t from (hf3 127 (l.length + j) (fun q => absurd q.1 (by decide))).trans (hw2)]; exact et) (fun x i hx hi => ?_)
        rw [hlen] at hi
        rcases hx with rfl | rfl
        · exact (hf3 127 i (fun z => absurd z.1 (by decide))).trans ((hf2 127 i (fun z => absurd z.2 (by omega))).trans (hf1 127 i (fun z => absurd z.1 (by decide))))
        · exact (hf3 128 i (fun z => absurd z.1 (by decide))).trans ((hf2 128 i (fun z => absurd z.1 (by decide))).trans (hf1 128 i (fun z => absurd z.2 (by omega))))
      exact ih (j + 1) (q + 1) (t + (σ.2.1 120 (12 + ww))) τ3 hT3 ((funext fun q => fr 120 q (fun z => absurd z.1 (by decide)) (by decide) (by decide)).trans hs) (ax_inc eq (by omega)) (by omega) et2 hL1 (fun σ' q2 t2 a1 a2 a4 a5 => kk σ' q2 t2 a1 (fun x y h x7 x8 => (a2 x y h x7 x8).trans (fr x y h x7 x8)) a4 a5)
end AXX
